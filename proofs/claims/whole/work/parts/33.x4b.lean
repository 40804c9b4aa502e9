set_option maxHeartbeats 4000000 in
set_option maxRecDepth 100000 in
theorem c_X4_mark (l : Launch) (dC : Nat → ClassId) (dI : Nat → Nat → Nat) (cI cZ cJ : ClassId) (b : Nat → Nat) (tw : Int32) (nk : Nat) (pa : Nat → Int32) (nc : Nat) (fo : Nat → Int32) (th : Nat → Int32) (tg : Nat → Int32) (nt : Nat) (tb : Nat → Int32) (te : Nat → Int32) (tk : Nat → Int32) (tt : Nat → Int32) (ex : Int32) (tc : Int32) (es : Int32) (wy : Int64) (ab : Nat → Int32) (re : Nat → Int32) (go : Nat → Int32) (be : Nat → Int32) (x : Int32) (R : Nat → Bool) (v : Nat → Bool) (sz : Nat) (hnc : nc ≤ 48) (hI : inv4 nc R v re) (hR : ∀ j, j < nc → x = nI j → R j = true) : Met l yX4_mark wsX4_mark ({ frames := 2, cells := 0, slots := 0, locals := 43 } : Room) (va_Pc [.ref (b 0), .int x] (zWr (dC, dI) [(cI, .int), (cZ, .boolean), (cJ, .long)] (w4 b cI cZ tw nk pa nc fo th tg nt tb te tk tt ex tc es wy ab re go be) sz)) (va_Qi (fun (r : Int32) (u : (Nat → Int32) × Bool) => match u with | (re9, mb9) => r = bI mb9 ∧ ∃ v9, mk4 nc R v v9 re9 mb9 ∧ ∀ j, j < nc → x = nI j → v9 j = true) (fun u t => match u with | (re9, mb9) => zWo (dC, dI) [(cI, .int), (cZ, .boolean), (cJ, .long)] (w4 b cI cZ tw nk pa nc fo th tg nt tb te tk tt ex tc es wy ab re9 go be) (va_A (w4 b cI cZ tw nk pa nc fo th tg nt tb te tk tt ex tc es wy ab re go be) sz) t) (va_A (w4 b cI cZ tw nk pa nc fo th tg nt tb te tk tt ex tc es wy ab re go be) sz)) 0 0 (va_A (w4 b cI cZ tw nk pa nc fo th tg nt tb te tk tt ex tc es wy ab re go be) sz) := by
  refine Met.ofW (cc := cX4_mark) (maxL := 2) (ret := (some .boolean)) (by decide) rfl ?_
  intro p e s m args below meth c s₁ B hml hv
  obtain ⟨hav, hsz, ⟨hP, hK, hn⟩, hD0⟩ := hv
  have hx := B.exec
  have hb := B.bytes
  have hr := B.returns
  have hts := atoms_spec (ws := wsX4_mark) B.pre
  have hown : s.vm.findClass RX4 = some m.cls := findClass_of_methodNamed B.named
  have hlocks := B.notSynchronized
  subst hsz
  have hD := hD0.self (sz := s.heap.size)
  generalize hAe : (va_A (w4 b cI cZ tw nk pa nc fo th tg nt tb te tk tt ex tc es wy ab re go be) s.heap.size) = A at hD ⊢
  have hA : ∀ q : Nat, s.heap.size ≤ q → A q := fun q h => by rw [← hAe]; exact Or.inr h
  have hS : va_S A s.heap s.heap [] := va_S.rf
  generalize hQ : MQ below (va_Qi (fun (r : Int32) (u : (Nat → Int32) × Bool) => match u with | (re9, mb9) => r = bI mb9 ∧ ∃ v9, mk4 nc R v v9 re9 mb9 ∧ ∀ j, j < nc → x = nI j → v9 j = true) (fun u t => match u with | (re9, mb9) => zWo (dC, dI) [(cI, .int), (cZ, .boolean), (cJ, .long)] (w4 b cI cZ tw nk pa nc fo th tg nt tb te tk tt ex tc es wy ab re9 go be) A t) A) args s 0 0 A = Q
  refine W.eq (g2 := entryFrame m ([.ref (b 0), .int x] : List Value).toArray 2) (by rw [hav]) ?_
  have hl := lv_entry ([.ref (b 0), .int x]) (n := 2) (Nat.le_of_ble_eq_true rfl)
  rw [lg_entry_eq]
  generalize (lg_sl ([.ref (b 0), .int x]) ++ List.replicate (2 - (lg_sl ([.ref (b 0), .int x])).length) Slot.unset).toArray = ls at hl ⊢
  have hl : lv_has ls 2 [(0, .ref (b 0)), (1, .int x)] := hl
  obtain ⟨H, hH⟩ : ∃ H, H = s.heap := ⟨_, rfl⟩
  obtain ⟨locs, hlo⟩ : ∃ q : List Loc, q = [] := ⟨_, rfl⟩
  have hP : va_P (dC, dI) vwCl (w4 b cI cZ tw nk pa nc fo th tg nt tb te tk tt ex tc es wy ab re go be) H := by rw [hH]; exact hP
  have hS : va_S A s.heap H locs := by rw [hH, hlo]; exact hS
  refine zz_hl hH hlo ?_
  refine lv_aload_n hx hb dX4_mark_0 rfl (lv_at hl 0 rfl) ?_
  refine lv_iload_n hx hb dX4_mark_1 rfl (lv_at hl 1 rfl) ?_
  refine va_calli (va_runV (As := [.int x]) (rest := []) ⟨hx, hb, hml, hown, hts⟩ (c_X4_isInstruction l dC dI cI cZ cJ b tw nk pa nc fo th tg nt tb te tk tt ex tc es wy ab re go be x (by omega)) (cwV 1 hts gX4_mark_X4_isInstruction rfl rfl rfl (by decide +kernel) ⟨Nat.le_of_ble_eq_true rfl, Nat.le_of_ble_eq_true rfl⟩) ⟨zPre_blind, va_recv hK hP (ci := 4) (q0 := 0) rfl rfl, zPre_at hP hK hn⟩ rfl rfl hl.1 rfl (lv_room (Nat.le_of_ble_eq_true rfl)) dX4_mark_2 ⟨Nat.le_of_ble_eq_true rfl, Nat.le_of_ble_eq_true rfl⟩) hS (fun _ _ h => h.elim) (fun _ h => h.elim) (fun r_1 u_9 t H locs ht hvm hw hB hz1 hk1 hS => ?_)
  have hP := zkeep hP hk1
  subst hw
  refine lv_if_eq (tgt := 17) hx hb dX4_mark_5 (by decide) (fun c_2 => ?_) (fun c_2 => ?_)
  · skip
    have c9 := zb_0.mp c_2
    refine lv_iconst (v := 0) hx hb dX4_mark_17 (by decide) ?_
    rw [← hQ]
    have hP9 := hP
    have hD9 := hD
    exact W.zret (v := 0) hx hb hr rfl (fun t ht hW => ⟨⟨0, (re, false), rfl, (by refine ⟨rfl, v, ⟨hI, fun _ q => q, fun q => absurd q Bool.false_ne_true, fun _ => rfl⟩, fun j hj q => ?_⟩; first | exact absurd q (hasI_f (by omega) c9 hj) | (have := (nI_eq (by omega) (by omega)).mp q; rw [← this]; exact c8)), (by rw [ht]; exact hP9), va_K.moved hW.alike hK, hD9⟩, hS.F ht⟩) hS.2.2 dX4_mark_18
  · skip
    have c9 := zb_1.mp c_2
    obtain ⟨i, hi, rfl⟩ := hasI_at (by omega) c9
    refine lv_aload_n hx hb dX4_mark_8 rfl (lv_at hl 0 rfl) ?_
    refine va_get (D := (dC, dI)) (ci := 4) (v := .ref (b 10)) (C := RX4) (T := TX4) (N := 20) hx hb hts (by decide +kernel) hown hK hP 0 rfl rfl 17 (by decide) (hts (.fieldLink RX4 44 "HandlerOptimizerModel" "areReached" "[Z") (by decide +kernel)) (fun _ h9 => h9) rfl dX4_mark_9 ?_
    refine lv_iload_n hx hb dX4_mark_12 rfl (lv_at hl 1 rfl) ?_
    refine va_zald hx hb hK hP 10 1 rfl rfl (vp_in_nI (n := i) (by omega) (by decide)) dX4_mark_13 ?_
    refine zz_top (y := re i) (congrArg _ (nI_clamp (by omega))) ?_
    refine zz_top (y := bI (v i)) (hI.1 i (by omega)) ?_
    refine lv_if_eq (tgt := 19) hx hb dX4_mark_14 (by decide) (fun c_3 => ?_) (fun c_3 => ?_)
    · skip
      have c8 := zb_0.mp c_3
      refine lv_aload_n hx hb dX4_mark_19 rfl (lv_at hl 0 rfl) ?_
      refine va_get (D := (dC, dI)) (ci := 4) (v := .ref (b 10)) (C := RX4) (T := TX4) (N := 20) hx hb hts (by decide +kernel) hown hK hP 0 rfl rfl 17 (by decide) (hts (.fieldLink RX4 44 "HandlerOptimizerModel" "areReached" "[Z") (by decide +kernel)) (fun _ h9 => h9) rfl dX4_mark_20 ?_
      refine lv_iload_n hx hb dX4_mark_23 rfl (lv_at hl 1 rfl) ?_
      refine lv_iconst (v := 1) hx hb dX4_mark_24 (by decide) ?_
      refine va_zast hx hb hK hP hD hS 10 1 rfl rfl (vp_in_nI (n := i) (by omega) (by decide)) dX4_mark_25 (fun H locs hP hD hS => ?_)
      rw [nI_clamp (n := i) (by omega)] at hP hD
      rw [zz_nz1] at hP hD
      have hP : va_P (dC, dI) vwCl (w4 b cI cZ tw nk pa nc fo th tg nt tb te tk tt ex tc es wy ab (upd re i 1) go be) H := hP
      have hD : va_D A (w4 b cI cZ tw nk pa nc fo th tg nt tb te tk tt ex tc es wy ab (upd re i 1) go be) := hD
      refine lv_iconst (v := 1) hx hb dX4_mark_26 (by decide) ?_
      rw [← hQ]
      have hP9 := hP
      have hD9 := hD
      exact W.zret (v := 1) hx hb hr rfl (fun t ht hW => ⟨⟨1, (upd re i 1, true), rfl, (⟨rfl, vs v i, ⟨inv4_mark hI hi (hR i hi rfl), fun j q => by simp [vs, q], fun _ => ct_set hi c8, fun q => absurd q (by decide)⟩, fun j hj q => by have := (nI_eq (by omega) (by omega)).mp q; simp [vs, this]⟩), (by rw [ht]; exact hP9), va_K.moved hW.alike hK, hD9⟩, hS.F ht⟩) hS.2.2 dX4_mark_27
    · skip
      have c8 := zb_1.mp c_3
      refine lv_iconst (v := 0) hx hb dX4_mark_17 (by decide) ?_
      rw [← hQ]
      have hP9 := hP
      have hD9 := hD
      exact W.zret (v := 0) hx hb hr rfl (fun t ht hW => ⟨⟨0, (re, false), rfl, (by refine ⟨rfl, v, ⟨hI, fun _ q => q, fun q => absurd q Bool.false_ne_true, fun _ => rfl⟩, fun j hj q => ?_⟩; first | exact absurd q (hasI_f (by omega) c9 hj) | (have := (nI_eq (by omega) (by omega)).mp q; rw [← this]; exact c8)), (by rw [ht]; exact hP9), va_K.moved hW.alike hK, hD9⟩, hS.F ht⟩) hS.2.2 dX4_mark_18

set_option maxHeartbeats 4000000 in
set_option maxRecDepth 100000 in
theorem c_X4_reach (l : Launch) (dC : Nat → ClassId) (dI : Nat → Nat → Nat) (cI cZ cJ : ClassId) (b : Nat → Nat) (tw : Int32) (nk : Nat) (pa : Nat → Int32) (nc : Nat) (fo : Nat → Int32) (th : Nat → Int32) (tg : Nat → Int32) (nt : Nat) (tb : Nat → Int32) (te : Nat → Int32) (tk : Nat → Int32) (tt : Nat → Int32) (ex : Int32) (tc : Int32) (es : Int32) (wy : Int64) (ab : Nat → Int32) (re : Nat → Int32) (go : Nat → Int32) (be : Nat → Int32) (T : Nat → Nat → Nat) (up : Nat → Nat → Bool) (sz : Nat) (hg : g4 nk ab up nt tb te tk tt T) (hc : okC nk nc fo th tg) : Met l yX4_reach wsX4_reach ({ frames := 3, cells := 0, slots := 0, locals := 67 } : Room) (va_Pc [.ref (b 0)] (zWr (dC, dI) [(cI, .int), (cZ, .boolean), (cJ, .long)] (w4 b cI cZ tw nk pa nc fo th tg nt tb te tk tt ex tc es wy ab re go be) sz)) (va_Qv (fun (re9 : Nat → Int32) => ∀ j, j < 48 → re9 j = bI (RB nk nc fo th tg T nt up j)) (fun re9 t => zWo (dC, dI) [(cI, .int), (cZ, .boolean), (cJ, .long)] (w4 b cI cZ tw nk pa nc fo th tg nt tb te tk tt ex tc es wy ab re9 go be) (va_A (w4 b cI cZ tw nk pa nc fo th tg nt tb te tk tt ex tc es wy ab re go be) sz) t) (va_A (w4 b cI cZ tw nk pa nc fo th tg nt tb te tk tt ex tc es wy ab re go be) sz)) 0 0 (va_A (w4 b cI cZ tw nk pa nc fo th tg nt tb te tk tt ex tc es wy ab re go be) sz) := by
  refine Met.ofW (cc := cX4_reach) (maxL := 4) (ret := none) (by decide) rfl ?_
  intro p e s m args below meth c s₁ B hml hv
  obtain ⟨hav, hsz, ⟨hP, hK, hn⟩, hD0⟩ := hv
  have hx := B.exec
  have hb := B.bytes
  have hr := B.returns
  have hts := atoms_spec (ws := wsX4_reach) B.pre
  have hown : s.vm.findClass RX4 = some m.cls := findClass_of_methodNamed B.named
  have hlocks := B.notSynchronized
  subst hsz
  have hD := hD0.self (sz := s.heap.size)
  generalize hAe : (va_A (w4 b cI cZ tw nk pa nc fo th tg nt tb te tk tt ex tc es wy ab re go be) s.heap.size) = A at hD ⊢
  have hA : ∀ q : Nat, s.heap.size ≤ q → A q := fun q h => by rw [← hAe]; exact Or.inr h
  have hS : va_S A s.heap s.heap [] := va_S.rf
  generalize hQ : MQ below (va_Qv (fun (re9 : Nat → Int32) => ∀ j, j < 48 → re9 j = bI (RB nk nc fo th tg T nt up j)) (fun re9 t => zWo (dC, dI) [(cI, .int), (cZ, .boolean), (cJ, .long)] (w4 b cI cZ tw nk pa nc fo th tg nt tb te tk tt ex tc es wy ab re9 go be) A t) A) args s 0 0 A = Q
  refine W.eq (g2 := entryFrame m ([.ref (b 0)] : List Value).toArray 4) (by rw [hav]) ?_
  have hl := lv_entry ([.ref (b 0)]) (n := 4) (Nat.le_of_ble_eq_true rfl)
  rw [lg_entry_eq]
  generalize (lg_sl ([.ref (b 0)]) ++ List.replicate (4 - (lg_sl ([.ref (b 0)])).length) Slot.unset).toArray = ls at hl ⊢
  have hl : lv_has ls 4 [(0, .ref (b 0))] := hl
  obtain ⟨H, hH⟩ : ∃ H, H = s.heap := ⟨_, rfl⟩
  obtain ⟨locs, hlo⟩ : ∃ q : List Loc, q = [] := ⟨_, rfl⟩
  have hP : va_P (dC, dI) vwCl (w4 b cI cZ tw nk pa nc fo th tg nt tb te tk tt ex tc es wy ab re go be) H := by rw [hH]; exact hP
  have hS : va_S A s.heap H locs := by rw [hH, hlo]; exact hS
  refine zz_hl hH hlo ?_
  obtain ⟨hk01, hk8, hnt, hT, hO, hF, hU⟩ := id hg
  obtain ⟨hnc, hC⟩ := id hc
  refine lv_iconst (v := 0) hx hb dX4_reach_0 (by decide) ?_
  refine lv_istore_n (lv' := [(1, .int 0), (0, .ref (b 0))]) hx hb dX4_reach_1 rfl hl (by decide) rfl (fun ls hl => ?_)
  have J_2 : ∀ (n9 : Nat) (y : Nat) (gre : Nat → Int32) (H : Heap) (locs : List Loc) (ls : Array Slot), (y ≤ 48) → (∀ j, j < y → gre j = 0) → 48 - y < n9 → va_P (dC, dI) vwCl (w4 b cI cZ tw nk pa nc fo th tg nt tb te tk tt ex tc es wy ab gre go be) H → va_D A (w4 b cI cZ tw nk pa nc fo th tg nt tb te tk tt ex tc es wy ab gre go be) → va_S A s.heap H locs → lv_has ls 4 [(0, .ref (b 0)), (1, .int (nI y))] → W p l e (headSpec wsX4_reach ({ frames := 3, cells := 0, slots := 0, locals := 67 } : Room)).room s m args below meth c H locs 0 0 Q (F0 m 2 ls []) := by
    intro n9
    induction n9 with
    | zero => intro y gre H locs ls hy hz hmu; exact absurd hmu (Nat.not_lt_zero _)
    | succ n9 ih_2 =>
      intro y gre H locs ls hy hz hmu hP hD hS hl
      refine lv_iload_n hx hb dX4_reach_2 rfl (lv_at hl 1 rfl) ?_
      refine lv_bipush (v := 48) hx hb dX4_reach_3 (by decide) ?_
      refine lv_icmp_ge (tgt := 21) hx hb dX4_reach_5 (by decide) (fun c_1 => ?_) (fun c_1 => ?_)
      · skip
        have c_1 := (zz_get (a := y) (b := 48) (by omega) (by omega)).mp c_1
        refine lv_aload_n hx hb dX4_reach_21 rfl (lv_at hl 0 rfl) ?_
        refine lv_iconst (v := 0) hx hb dX4_reach_22 (by decide) ?_
        have hDc := hD
        have hFc := va_free (wc := w4 b cI cZ tw nk pa nc fo th tg nt tb te tk tt ex tc es wy ab gre go be) hD hS hA [0, 1, 2, 3, 4, 5, 6, 7, 8, 9, 10, 11, 12] rfl
        refine va_calli (va_runV (As := [.int 0]) (rest := []) ⟨hx, hb, hml, hown, hts⟩ (c_X4_mark l dC dI cI cZ cJ b tw nk pa nc fo th tg nt tb te tk tt ex tc es wy ab gre go be 0 (RB nk nc fo th tg T nt up) (fun _ => false) H.size (by first | assumption | omega) (⟨fun j hj => hz j (by omega), fun j q => absurd q Bool.false_ne_true⟩) (by
                intro j hj q
                have := (nI_eq (a := 0) (by omega) (by omega)).mp q
                subst this; exact rB_0 hj)) (cwV 1 hts gX4_reach_X4_mark rfl rfl rfl (by decide +kernel) ⟨Nat.le_of_ble_eq_true rfl, Nat.le_of_ble_eq_true rfl⟩) ⟨zWr_blind, va_recv hK hP (ci := 4) (q0 := 0) rfl rfl, zWr_at hP hK hn (hDc.weaken (fun _ _ _ _ => trivial))⟩ rfl rfl hl.1 rfl (lv_room (Nat.le_of_ble_eq_true rfl)) dX4_reach_23 ⟨Nat.le_of_ble_eq_true rfl, Nat.le_of_ble_eq_true rfl⟩) hS (fun q _ h => hFc q h) hFc (fun r_2 u_9 t H1 locs ht hvm hw hB hz1 hk1 hS => ?_)
        obtain ⟨re_n, mb_n⟩ := u_9
        dsimp only at hw hB
        obtain ⟨hP1, -, hD1⟩ := hB
        rw [ht] at hP1
        obtain ⟨hP, hD⟩ := va_join (wr := []) (w1 := w4 b cI cZ tw nk pa nc fo th tg nt tb te tk tt ex tc es wy ab re_n go be) hP hD [0, 1, 2, 3, 4, 5, 6, 7, 8, 9, 10, 11, 12] [] rfl rfl (by decide) (by decide) hk1 hFc hP1 hD1
        generalize H1 = H at hP hS ⊢
        have hP : va_P (dC, dI) vwCl (w4 b cI cZ tw nk pa nc fo th tg nt tb te tk tt ex tc es wy ab re_n go be) H := hP
        have hD : va_D A (w4 b cI cZ tw nk pa nc fo th tg nt tb te tk tt ex tc es wy ab re_n go be) := hD
        obtain ⟨hw0, hw⟩ := hw
        subst hw0
        obtain ⟨v9, hm9, hv9⟩ := hw
        refine lv_istore_n (lv' := [(1, .int (bI mb_n)), (0, .ref (b 0))]) hx hb dX4_reach_26 rfl hl (by decide) rfl (fun ls hl => ?_)
        have J_27 : ∀ (n9 : Nat) (im : Bool) (gre2 : Nat → Int32) (v : Nat → Bool) (H : Heap) (locs : List Loc) (ls : Array Slot), (inv4 nc (RB nk nc fo th tg T nt up) v gre2) → (0 < nc → v 0 = true) → (im = false → ∀ x, x < nc → v x = true → ∀ q, q < nc → ed nk fo th tg (gl T nt up) x q → v q = true) → 2 * (nc - ct v nc) + (if im then 1 else 0) < n9 → va_P (dC, dI) vwCl (w4 b cI cZ tw nk pa nc fo th tg nt tb te tk tt ex tc es wy ab gre2 go be) H → va_D A (w4 b cI cZ tw nk pa nc fo th tg nt tb te tk tt ex tc es wy ab gre2 go be) → va_S A s.heap H locs → lv_has ls 4 [(0, .ref (b 0)), (1, .int (bI im))] → W p l e (headSpec wsX4_reach ({ frames := 3, cells := 0, slots := 0, locals := 67 } : Room)).room s m args below meth c H locs 0 0 Q (F0 m 27 ls []) := by
          intro n9
          induction n9 with
          | zero => intro im gre2 v H locs ls hI h0 hcl hmu; exact absurd hmu (Nat.not_lt_zero _)
          | succ n9 ih_27 =>
            intro im gre2 v H locs ls hI h0 hcl hmu hP hD hS hl
            refine lv_iload_n hx hb dX4_reach_27 rfl (lv_at hl 1 rfl) ?_
            refine lv_if_eq (tgt := 188) hx hb dX4_reach_28 (by decide) (fun c_5 => ?_) (fun c_5 => ?_)
            · skip
              have c27 := zb_0.mp c_5
              rw [← hQ]
              have hP9 := hP
              have hD9 := hD
              exact W.vret hx hb hr (fun t ht hW => ⟨⟨gre2, rfl, (by
                      intro j hj
                      rw [hI.1 j hj]
                      congr 1
                      have hle : ∀ i, RB nk nc fo th tg T nt up i = true → v i = true := fun i q => rB_least h0 (fun x y9 hx q1 he hy9 => hcl c27 x hx q1 y9 hy9 he) q
                      cases e1 : v j
                      · cases e2 : RB nk nc fo th tg T nt up j
                        · rfl
                        · rw [hle j e2] at e1; cases e1
                      · exact ((hI.2 j e1).2).symm), (by rw [ht]; exact hP9), va_K.moved hW.alike hK, hD9⟩, hS.F ht⟩) hS.2.2 dX4_reach_188
            · skip
              have c27 := zb_1.mp c_5
              refine lv_iconst (v := 0) hx hb dX4_reach_31 (by decide) ?_
              refine lv_istore_n (lv' := [(1, .int 0), (0, .ref (b 0))]) hx hb dX4_reach_32 rfl hl (by decide) rfl (fun ls hl => ?_)
              refine lv_iconst (v := 0) hx hb dX4_reach_33 (by decide) ?_
              refine lv_istore_n (lv' := [(2, .int 0), (1, .int 0), (0, .ref (b 0))]) hx hb dX4_reach_34 rfl hl (by decide) rfl (fun ls hl => ?_)
              have J_35 : ∀ (n9 : Nat) (y2 : Nat) (gim : Bool) (gre3 : Nat → Int32) (gv : Nat → Bool) (H : Heap) (locs : List Loc) (ls : Array Slot), (y2 ≤ nc) → (inv4 nc (RB nk nc fo th tg T nt up) gv gre3) → (pr4 nc v gv gim) → (gim = false → ∀ x, x < y2 → v x = true → ∀ q, q < nc → ed nk fo th tg (gl T nt up) x q → v q = true) → nc - y2 < n9 → va_P (dC, dI) vwCl (w4 b cI cZ tw nk pa nc fo th tg nt tb te tk tt ex tc es wy ab gre3 go be) H → va_D A (w4 b cI cZ tw nk pa nc fo th tg nt tb te tk tt ex tc es wy ab gre3 go be) → va_S A s.heap H locs → lv_has ls 4 [(0, .ref (b 0)), (1, .int (bI gim)), (2, .int (nI y2))] → W p l e (headSpec wsX4_reach ({ frames := 3, cells := 0, slots := 0, locals := 67 } : Room)).room s m args below meth c H locs 0 0 Q (F0 m 35 ls []) := by
                intro n9
                induction n9 with
                | zero => intro y2 gim gre3 gv H locs ls hy2 hI3 hp3 hd3 hmu; exact absurd hmu (Nat.not_lt_zero _)
                | succ n9 ih_35 =>
                  intro y2 gim gre3 gv H locs ls hy2 hI3 hp3 hd3 hmu hP hD hS hl
                  refine lv_iload_n hx hb dX4_reach_35 rfl (lv_at hl 2 rfl) ?_
                  refine lv_aload_n hx hb dX4_reach_36 rfl (lv_at hl 0 rfl) ?_
                  refine va_get (D := (dC, dI)) (ci := 4) (v := .int (nI nc)) (C := RX4) (T := TX4) (N := 20) hx hb hts (by decide +kernel) hown hK hP 0 rfl rfl 3 (by decide) (hts (.fieldLink RX4 61 "HandlerOptimizerModel" "size" "I") (by decide +kernel)) (fun _ h9 => h9) rfl dX4_reach_37 ?_
                  refine lv_icmp_ge (tgt := 185) hx hb dX4_reach_40 (by decide) (fun c_6 => ?_) (fun c_6 => ?_)
                  · skip
                    have c_6 := (zz_get (a := y2) (b := nc) (by omega) (by omega)).mp c_6
                    refine lv_goto (tgt := 27) hx hb dX4_reach_185 (by decide) ?_
                    exact ih_27 gim gre3 gv _ _ _ hI3 (fun q => hp3.1 0 (h0 q)) (by
                            intro q x hx hvx b2 hb2 he
                            rw [hp3.2.1 q] at hvx ⊢
                            exact hd3 q x (by omega) hvx b2 hb2 he) (by
    have h1 := ct_le gv nc
    have h2 := ct_le v nc
    have h5 : (if im = true then 1 else 0) = 1 := by rw [c27]; rfl
    cases gim
    · rw [hp3.2.1 rfl]; simp only [Bool.false_eq_true, if_false]; omega
    · have := hp3.2.2 rfl; simp only [if_true]; omega) hP hD hS (lv_sub hl [0, 1] rfl)
                  · skip
                    have c_6 := (zz_gef (a := y2) (b := nc) (by omega) (by omega)).mp c_6
                    have J_179 : ∀ (im5 : Bool) (gre5 : Nat → Int32) (gv5 : Nat → Bool) (H : Heap) (locs : List Loc) (ls : Array Slot), (inv4 nc (RB nk nc fo th tg T nt up) gv5 gre5) → (pr4 nc v gv5 im5) → (im5 = false → ∀ x, x < y2 + 1 → v x = true → ∀ q, q < nc → ed nk fo th tg (gl T nt up) x q → v q = true) → va_P (dC, dI) vwCl (w4 b cI cZ tw nk pa nc fo th tg nt tb te tk tt ex tc es wy ab gre5 go be) H → va_D A (w4 b cI cZ tw nk pa nc fo th tg nt tb te tk tt ex tc es wy ab gre5 go be) → va_S A s.heap H locs → lv_has ls 4 [(0, .ref (b 0)), (1, .int (bI im5)), (2, .int (nI y2))] → W p l e (headSpec wsX4_reach ({ frames := 3, cells := 0, slots := 0, locals := 67 } : Room)).room s m args below meth c H locs 0 0 Q (F0 m 179 ls []) := by
                      intro im5 gre5 gv5 H locs ls hI5 hp5 hd5 hP hD hS hl
                      refine lv_iinc (v := nI (y2 + 1)) (lv' := [(2, .int (nI (y2 + 1))), (0, .ref (b 0)), (1, .int (bI im5))]) hx hb dX4_reach_179 hl (k := 2) rfl (zz_inc y2 1) (by decide) rfl (fun ls hl => ?_)
                      refine lv_goto (tgt := 35) hx hb dX4_reach_182 (by decide) ?_
                      exact ih_35 (y2 + 1) im5 gre5 gv5 _ _ _ (by first | assumption | omega) hI5 hp5 hd5 (by omega) hP hD hS (lv_sub hl [1, 2, 0] rfl)
                    refine lv_aload_n hx hb dX4_reach_43 rfl (lv_at hl 0 rfl) ?_
                    refine va_get (D := (dC, dI)) (ci := 4) (v := .ref (b 10)) (C := RX4) (T := TX4) (N := 20) hx hb hts (by decide +kernel) hown hK hP 0 rfl rfl 17 (by decide) (hts (.fieldLink RX4 44 "HandlerOptimizerModel" "areReached" "[Z") (by decide +kernel)) (fun _ h9 => h9) rfl dX4_reach_44 ?_
                    refine lv_iload_n hx hb dX4_reach_47 rfl (lv_at hl 2 rfl) ?_
                    refine va_zald hx hb hK hP 10 1 rfl rfl (vp_in_nI (n := y2) (by omega) (by decide)) dX4_reach_48 ?_
                    refine zz_top (y := gre3 y2) (congrArg _ (nI_clamp (by omega))) ?_
                    refine zz_top (y := bI (gv y2)) (hI3.1 y2 (by omega)) ?_
                    refine lv_if_ne (tgt := 55) hx hb dX4_reach_49 (by decide) (fun c_7 => ?_) (fun c_7 => ?_)
                    · skip
                      have c48 := zb_1.mp c_7
                      have J_127 : ∀ (im4 : Bool) (gre4 : Nat → Int32) (gv4 : Nat → Bool) (H : Heap) (locs : List Loc) (ls : Array Slot), (inv4 nc (RB nk nc fo th tg T nt up) gv4 gre4) → (pr4 nc v gv4 im4) → (∀ j, gv j = true → gv4 j = true) → (im4 = false → gim = false) → ((fo y2 = 0 ∨ fo y2 = 2) → y2 + 1 < nc → gv4 (y2 + 1) = true) → (∀ j, j < nc → tg y2 = nI j → gv4 j = true) → va_P (dC, dI) vwCl (w4 b cI cZ tw nk pa nc fo th tg nt tb te tk tt ex tc es wy ab gre4 go be) H → va_D A (w4 b cI cZ tw nk pa nc fo th tg nt tb te tk tt ex tc es wy ab gre4 go be) → va_S A s.heap H locs → lv_has ls 4 [(0, .ref (b 0)), (1, .int (bI im4)), (2, .int (nI y2))] → W p l e (headSpec wsX4_reach ({ frames := 3, cells := 0, slots := 0, locals := 67 } : Room)).room s m args below meth c H locs 0 0 Q (F0 m 127 ls []) := by
                        intro im4 gre4 gv4 H locs ls hI4 hp4 hm4 hx4 hf1 hf2 hP hD hS hl
                        refine lv_iconst (v := 0) hx hb dX4_reach_127 (by decide) ?_
                        refine lv_istore_n (lv' := [(3, .int 0), (0, .ref (b 0)), (1, .int (bI im4)), (2, .int (nI y2))]) hx hb dX4_reach_128 rfl hl (by decide) rfl (fun ls hl => ?_)
                        have J_129 : ∀ (n9 : Nat) (z : Nat) (im4 : Bool) (gre4 : Nat → Int32) (gv4 : Nat → Bool) (H : Heap) (locs : List Loc) (ls : Array Slot), (z ≤ nk) → (inv4 nc (RB nk nc fo th tg T nt up) gv4 gre4) → (pr4 nc v gv4 im4) → (∀ j, gv j = true → gv4 j = true) → (im4 = false → gim = false) → ((fo y2 = 0 ∨ fo y2 = 2) → y2 + 1 < nc → gv4 (y2 + 1) = true) → (∀ j, j < nc → tg y2 = nI j → gv4 j = true) → (∀ k, k < z → bt (th y2) k = true → ∀ j, j < nc → gl T nt up y2 k = nI j → gv4 j = true) → nk - z < n9 → va_P (dC, dI) vwCl (w4 b cI cZ tw nk pa nc fo th tg nt tb te tk tt ex tc es wy ab gre4 go be) H → va_D A (w4 b cI cZ tw nk pa nc fo th tg nt tb te tk tt ex tc es wy ab gre4 go be) → va_S A s.heap H locs → lv_has ls 4 [(0, .ref (b 0)), (1, .int (bI im4)), (2, .int (nI y2)), (3, .int (nI z))] → W p l e (headSpec wsX4_reach ({ frames := 3, cells := 0, slots := 0, locals := 67 } : Room)).room s m args below meth c H locs 0 0 Q (F0 m 129 ls []) := by
                          intro n9
                          induction n9 with
                          | zero => intro z im4 gre4 gv4 H locs ls hz4 hI4 hp4 hm4 hx4 hf1 hf2 hf3 hmu; exact absurd hmu (Nat.not_lt_zero _)
                          | succ n9 ih_129 =>
                            intro z im4 gre4 gv4 H locs ls hz4 hI4 hp4 hm4 hx4 hf1 hf2 hf3 hmu hP hD hS hl
                            refine lv_iload_n hx hb dX4_reach_129 rfl (lv_at hl 3 rfl) ?_
                            refine lv_aload_n hx hb dX4_reach_130 rfl (lv_at hl 0 rfl) ?_
                            refine va_get (D := (dC, dI)) (ci := 4) (v := .int (nI nk)) (C := RX4) (T := TX4) (N := 20) hx hb hts (by decide +kernel) hown hK hP 0 rfl rfl 1 (by decide) (hts (.fieldLink RX4 7 "HandlerOptimizerModel" "kinds" "I") (by decide +kernel)) (fun _ h9 => h9) rfl dX4_reach_131 ?_
                            refine lv_icmp_ge (tgt := 179) hx hb dX4_reach_134 (by decide) (fun c_8 => ?_) (fun c_8 => ?_)
                            · skip
                              have c21 := (zz_get (a := z) (b := nk) (by omega) (by omega)).mp c_8
                              obtain ⟨gv6, hg6⟩ : ∃ q, q = gv4 := ⟨_, rfl⟩
                              have hI6 : inv4 nc (RB nk nc fo th tg T nt up) gv6 gre4 := by rw [hg6]; exact hI4
                              have hp6 : pr4 nc v gv6 im4 := by rw [hg6]; exact hp4
                              have hd6 : im4 = false → ∀ x, x < y2 + 1 → v x = true → ∀ q, q < nc → ed nk fo th tg (gl T nt up) x q → v q = true := fun q x hx hvx b2 hb2 he => by
                                by_cases d : x = y2
                                · subst d
                                  rw [← hp4.2.1 q]
                                  rcases he with ⟨q1, q2⟩ | ⟨q1, q2⟩ | ⟨k, q1, q2, q3⟩
                                  · subst q2; exact hf1 q1 hb2
                                  · exact hf2 b2 hb2 q2
                                  · exact hf3 k (by omega) q2 b2 hb2 q3
                                · exact hd3 (hx4 q) x (by omega) hvx b2 hb2 he
                              exact J_179 im4 gre4 gv6 _ _ _ hI6 hp6 hd6 hP hD hS (lv_sub hl [0, 1, 2] rfl)
                            · skip
                              have c_8 := (zz_gef (a := z) (b := nk) (by omega) (by omega)).mp c_8
                              refine lv_aload_n hx hb dX4_reach_137 rfl (lv_at hl 0 rfl) ?_
                              refine va_get (D := (dC, dI)) (ci := 4) (v := .ref (b 3)) (C := RX4) (T := TX4) (N := 20) hx hb hts (by decide +kernel) hown hK hP 0 rfl rfl 5 (by decide) (hts (.fieldLink RX4 20 "HandlerOptimizerModel" "errors" "[I") (by decide +kernel)) (fun _ h9 => h9) rfl dX4_reach_138 ?_
                              refine lv_iload_n hx hb dX4_reach_141 rfl (lv_at hl 2 rfl) ?_
                              refine va_iald hx hb hK hP 3 0 rfl rfl (vp_in_nI (n := y2) (by omega) (by decide)) dX4_reach_142 ?_
                              refine zz_top (y := th y2) (congrArg _ (nI_clamp (by omega))) ?_
                              refine lv_iload_n hx hb dX4_reach_143 rfl (lv_at hl 3 rfl) ?_
                              have hPc : va_P (dC, dI) vwCl [] H := fun k q h => by simp at h
                              refine va_calli (va_runS (As := [.int (th y2), .int (nI z)]) (rest := []) ⟨hx, hb, hml, hown, hts⟩ (c_X4_has l dC dI cI cZ cJ (th y2) z (by omega)) (va_cwS 2 hts gX4_reach_X4_has rfl rfl rfl (by decide +kernel) ⟨Nat.le_of_ble_eq_true rfl, Nat.le_of_ble_eq_true rfl⟩) ⟨zPre_blind, zPre_at hPc hK hn⟩ rfl rfl hl.1 rfl (lv_room (Nat.le_of_ble_eq_true rfl)) dX4_reach_144 ⟨Nat.le_of_ble_eq_true rfl, Nat.le_of_ble_eq_true rfl⟩) hS (fun _ _ h => h.elim) (fun _ h => h.elim) (fun r_9 u_9 t H locs ht hvm hw hB hz1 hk1 hS => ?_)
                              have hP := zkeep hP hk1
                              subst hw
                              refine lv_if_eq (tgt := 173) hx hb dX4_reach_147 (by decide) (fun c_10 => ?_) (fun c_10 => ?_)
                              · skip
                                have c20 := zb_0.mp c_10
                                obtain ⟨gv5, hg6⟩ : ∃ q, q = gv4 := ⟨_, rfl⟩
                                have hI5 : inv4 nc (RB nk nc fo th tg T nt up) gv5 gre4 := by rw [hg6]; exact hI4
                                have hp5 : pr4 nc v gv5 im4 := by rw [hg6]; exact hp4
                                have hm5 : ∀ j, gv j = true → gv5 j = true := by rw [hg6]; exact hm4
                                have hx5 := hx4
                                have hf5 : (fo y2 = 0 ∨ fo y2 = 2) → y2 + 1 < nc → gv5 (y2 + 1) = true := by rw [hg6]; exact hf1
                                have hg5 : ∀ j, j < nc → tg y2 = nI j → gv5 j = true := by rw [hg6]; exact hf2
                                have hh5 : ∀ k, k < z + 1 → bt (th y2) k = true → ∀ j, j < nc → gl T nt up y2 k = nI j → gv5 j = true := fun k hk q1 j q2 q3 => by
                                  by_cases d : k = z
                                  · subst d; rw [c20] at q1; cases q1
                                  · rw [hg6]; exact hf3 k (by omega) q1 j q2 q3
                                refine lv_iinc (v := nI (z + 1)) (lv' := [(3, .int (nI (z + 1))), (0, .ref (b 0)), (1, .int (bI im4)), (2, .int (nI y2))]) hx hb dX4_reach_173 hl (k := 3) rfl (zz_inc z 1) (by decide) rfl (fun ls hl => ?_)
                                refine lv_goto (tgt := 129) hx hb dX4_reach_176 (by decide) ?_
                                exact ih_129 (z + 1) im4 gre4 gv5 _ _ _ (by first | assumption | omega) hI5 hp5 hm5 hx5 hf5 hg5 hh5 (by omega) hP hD hS (lv_sub hl [1, 2, 3, 0] rfl)
                              · skip
                                have c20 := zb_1.mp c_10
                                refine lv_aload_n hx hb dX4_reach_150 rfl (lv_at hl 0 rfl) ?_
                                refine lv_aload_n hx hb dX4_reach_151 rfl (lv_at hl 0 rfl) ?_
                                refine lv_iload_n hx hb dX4_reach_152 rfl (lv_at hl 2 rfl) ?_
                                refine lv_iload_n hx hb dX4_reach_153 rfl (lv_at hl 3 rfl) ?_
                                refine va_calli (va_runV (As := [.int (nI y2), .int (nI z)]) (rest := [.ref (b 0)]) ⟨hx, hb, hml, hown, hts⟩ (c_X4_goal l dC dI cI cZ cJ b tw nk pa nc fo th tg nt tb te tk tt ex tc es wy ab gre4 go be y2 z T up (by first | assumption | omega) (by first | assumption | omega) (by omega) (by omega)) (cwV 2 hts gX4_reach_X4_goal rfl rfl rfl (by decide +kernel) ⟨Nat.le_of_ble_eq_true rfl, Nat.le_of_ble_eq_true rfl⟩) ⟨zPre_blind, va_recv hK hP (ci := 4) (q0 := 0) rfl rfl, zPre_at hP hK hn⟩ rfl rfl hl.1 rfl (lv_room (Nat.le_of_ble_eq_true rfl)) dX4_reach_154 ⟨Nat.le_of_ble_eq_true rfl, Nat.le_of_ble_eq_true rfl⟩) hS (fun _ _ h => h.elim) (fun _ h => h.elim) (fun r_11 u_9 t H locs ht hvm hw hB hz1 hk1 hS => ?_)
                                have hP := zkeep hP hk1
                                subst hw
                                have hDc := hD
                                have hFc := va_free (wc := w4 b cI cZ tw nk pa nc fo th tg nt tb te tk tt ex tc es wy ab gre4 go be) hD hS hA [0, 1, 2, 3, 4, 5, 6, 7, 8, 9, 10, 11, 12] rfl
                                refine va_calli (va_runV (As := [.int (gl T nt up y2 z)]) (rest := []) ⟨hx, hb, hml, hown, hts⟩ (c_X4_mark l dC dI cI cZ cJ b tw nk pa nc fo th tg nt tb te tk tt ex tc es wy ab gre4 go be (gl T nt up y2 z) (RB nk nc fo th tg T nt up) gv4 H.size (by first | assumption | omega) (hI4) (fun j hj q => rB_step (by omega) (hI3.2 y2 c48).2 (Or.inr (Or.inr ⟨z, by omega, c20, q⟩)) hj)) (cwV 1 hts gX4_reach_X4_mark rfl rfl rfl (by decide +kernel) ⟨Nat.le_of_ble_eq_true rfl, Nat.le_of_ble_eq_true rfl⟩) ⟨zWr_blind, va_recv hK hP (ci := 4) (q0 := 0) rfl rfl, zWr_at hP hK hn (hDc.weaken (fun _ _ _ _ => trivial))⟩ rfl rfl hl.1 rfl (lv_room (Nat.le_of_ble_eq_true rfl)) dX4_reach_157 ⟨Nat.le_of_ble_eq_true rfl, Nat.le_of_ble_eq_true rfl⟩) hS (fun q _ h => hFc q h) hFc (fun r_12 u_9 t H1 locs ht hvm hw hB hz1 hk1 hS => ?_)
                                obtain ⟨re_n, mb_n⟩ := u_9
                                dsimp only at hw hB
                                obtain ⟨hP1, -, hD1⟩ := hB
                                rw [ht] at hP1
                                obtain ⟨hP, hD⟩ := va_join (wr := []) (w1 := w4 b cI cZ tw nk pa nc fo th tg nt tb te tk tt ex tc es wy ab re_n go be) hP hD [0, 1, 2, 3, 4, 5, 6, 7, 8, 9, 10, 11, 12] [] rfl rfl (by decide) (by decide) hk1 hFc hP1 hD1
                                generalize H1 = H at hP hS ⊢
                                have hP : va_P (dC, dI) vwCl (w4 b cI cZ tw nk pa nc fo th tg nt tb te tk tt ex tc es wy ab re_n go be) H := hP
                                have hD : va_D A (w4 b cI cZ tw nk pa nc fo th tg nt tb te tk tt ex tc es wy ab re_n go be) := hD
                                obtain ⟨hw0, hw⟩ := hw
                                subst hw0
                                obtain ⟨gv5, hm9, hv9⟩ := hw
                                have hI5 := hm9.1
                                have hm5 : ∀ j, gv j = true → gv5 j = true := fun j q => hm9.2.1 j (hm4 j q)
                                have hf5 : (fo y2 = 0 ∨ fo y2 = 2) → y2 + 1 < nc → gv5 (y2 + 1) = true := fun q1 q2 => hm9.2.1 _ (hf1 q1 q2)
                                have hg5 : ∀ j, j < nc → tg y2 = nI j → gv5 j = true := fun j q1 q2 => hm9.2.1 _ (hf2 j q1 q2)
                                have hh5 : ∀ k, k < z + 1 → bt (th y2) k = true → ∀ j, j < nc → gl T nt up y2 k = nI j → gv5 j = true := fun k hk q1 j q2 q3 => by
                                  by_cases d : k = z
                                  · subst d; exact hv9 j q2 q3
                                  · exact hm9.2.1 _ (hf3 k (by omega) q1 j q2 q3)
                                refine lv_if_ne (tgt := 167) hx hb dX4_reach_160 (by decide) (fun c_15 => ?_) (fun c_15 => ?_)
                                · skip
                                  have c9 := zb_1.mp c_15
                                  have hp5 : pr4 nc v gv5 true := by have q := pr4_mk hp4 hm9; rw [c9] at q; exact q
                                  have hx5 : true = false → gim = false := fun q => by cases q
                                  refine lv_iconst (v := 1) hx hb dX4_reach_167 (by decide) ?_
                                  refine lv_goto (tgt := 172) hx hb dX4_reach_168 (by decide) ?_
                                  refine lv_istore_n (lv' := [(1, .int 1), (0, .ref (b 0)), (2, .int (nI y2)), (3, .int (nI z))]) hx hb dX4_reach_172 rfl hl (by decide) rfl (fun ls hl => ?_)
                                  refine lv_iinc (v := nI (z + 1)) (lv' := [(3, .int (nI (z + 1))), (1, .int 1), (0, .ref (b 0)), (2, .int (nI y2))]) hx hb dX4_reach_173 hl (k := 3) rfl (zz_inc z 1) (by decide) rfl (fun ls hl => ?_)
                                  refine lv_goto (tgt := 129) hx hb dX4_reach_176 (by decide) ?_
                                  exact ih_129 (z + 1) true re_n gv5 _ _ _ (by first | assumption | omega) hI5 hp5 hm5 hx5 hf5 hg5 hh5 (by omega) hP hD hS (lv_sub hl [2, 1, 3, 0] rfl)
                                · skip
                                  have c9 := zb_0.mp c_15
                                  refine lv_iload_n hx hb dX4_reach_163 rfl (lv_at hl 1 rfl) ?_
                                  refine lv_if_eq (tgt := 171) hx hb dX4_reach_164 (by decide) (fun c_16 => ?_) (fun c_16 => ?_)
                                  · skip
                                    have c8 := zb_0.mp c_16
                                    have hp5 : pr4 nc v gv5 false := by have q := pr4_mk hp4 hm9; rw [c9, c8] at q; exact q
                                    have hx5 : false = false → gim = false := fun _ => hx4 c8
                                    refine lv_iconst (v := 0) hx hb dX4_reach_171 (by decide) ?_
                                    refine lv_istore_n (lv' := [(1, .int 0), (0, .ref (b 0)), (2, .int (nI y2)), (3, .int (nI z))]) hx hb dX4_reach_172 rfl hl (by decide) rfl (fun ls hl => ?_)
                                    refine lv_iinc (v := nI (z + 1)) (lv' := [(3, .int (nI (z + 1))), (1, .int 0), (0, .ref (b 0)), (2, .int (nI y2))]) hx hb dX4_reach_173 hl (k := 3) rfl (zz_inc z 1) (by decide) rfl (fun ls hl => ?_)
                                    refine lv_goto (tgt := 129) hx hb dX4_reach_176 (by decide) ?_
                                    exact ih_129 (z + 1) false re_n gv5 _ _ _ (by first | assumption | omega) hI5 hp5 hm5 hx5 hf5 hg5 hh5 (by omega) hP hD hS (lv_sub hl [2, 1, 3, 0] rfl)
                                  · skip
                                    have c8 := zb_1.mp c_16
                                    have hp5 : pr4 nc v gv5 true := by have q := pr4_mk hp4 hm9; rw [c9, c8] at q; exact q
                                    have hx5 : true = false → gim = false := fun q => by cases q
                                    refine lv_iconst (v := 1) hx hb dX4_reach_167 (by decide) ?_
                                    refine lv_goto (tgt := 172) hx hb dX4_reach_168 (by decide) ?_
                                    refine lv_istore_n (lv' := [(1, .int 1), (0, .ref (b 0)), (2, .int (nI y2)), (3, .int (nI z))]) hx hb dX4_reach_172 rfl hl (by decide) rfl (fun ls hl => ?_)
                                    refine lv_iinc (v := nI (z + 1)) (lv' := [(3, .int (nI (z + 1))), (1, .int 1), (0, .ref (b 0)), (2, .int (nI y2))]) hx hb dX4_reach_173 hl (k := 3) rfl (zz_inc z 1) (by decide) rfl (fun ls hl => ?_)
                                    refine lv_goto (tgt := 129) hx hb dX4_reach_176 (by decide) ?_
                                    exact ih_129 (z + 1) true re_n gv5 _ _ _ (by first | assumption | omega) hI5 hp5 hm5 hx5 hf5 hg5 hh5 (by omega) hP hD hS (lv_sub hl [2, 1, 3, 0] rfl)
                        exact J_129 _ 0 im4 gre4 gv4 _ _ _ (by first | assumption | omega) (by first | assumption | omega) (by first | assumption | omega) (by first | assumption | omega) (by first | assumption | omega) (by first | assumption | omega) (by first | assumption | omega) (fun k hk => absurd hk (Nat.not_lt_zero k)) (Nat.lt_succ_self _) hP hD hS (lv_sub hl [1, 2, 3, 0] rfl)
                      have J_94 : ∀ (im4 : Bool) (gre4 : Nat → Int32) (gv4 : Nat → Bool) (H : Heap) (locs : List Loc) (ls : Array Slot), (inv4 nc (RB nk nc fo th tg T nt up) gv4 gre4) → (pr4 nc v gv4 im4) → (∀ j, gv j = true → gv4 j = true) → (im4 = false → gim = false) → ((fo y2 = 0 ∨ fo y2 = 2) → y2 + 1 < nc → gv4 (y2 + 1) = true) → va_P (dC, dI) vwCl (w4 b cI cZ tw nk pa nc fo th tg nt tb te tk tt ex tc es wy ab gre4 go be) H → va_D A (w4 b cI cZ tw nk pa nc fo th tg nt tb te tk tt ex tc es wy ab gre4 go be) → va_S A s.heap H locs → lv_has ls 4 [(0, .ref (b 0)), (1, .int (bI im4)), (2, .int (nI y2))] → W p l e (headSpec wsX4_reach ({ frames := 3, cells := 0, slots := 0, locals := 67 } : Room)).room s m args below meth c H locs 0 0 Q (F0 m 94 ls []) := by
                        intro im4 gre4 gv4 H locs ls hI4 hp4 hm4 hx4 hf1 hP hD hS hl
                        refine lv_aload_n hx hb dX4_reach_94 rfl (lv_at hl 0 rfl) ?_
                        refine va_get (D := (dC, dI)) (ci := 4) (v := .ref (b 4)) (C := RX4) (T := TX4) (N := 20) hx hb hts (by decide +kernel) hown hK hP 0 rfl rfl 6 (by decide) (hts (.fieldLink RX4 23 "HandlerOptimizerModel" "targets" "[I") (by decide +kernel)) (fun _ h9 => h9) rfl dX4_reach_95 ?_
                        refine lv_iload_n hx hb dX4_reach_98 rfl (lv_at hl 2 rfl) ?_
                        refine va_iald hx hb hK hP 4 0 rfl rfl (vp_in_nI (n := y2) (by omega) (by decide)) dX4_reach_99 ?_
                        refine zz_top (y := tg y2) (congrArg _ (nI_clamp (by omega))) ?_
                        refine lv_iconst (v := -1) hx hb dX4_reach_100 (by decide) ?_
                        refine lv_icmp_eq (tgt := 127) hx hb dX4_reach_101 (by decide) (fun c_17 => ?_) (fun c_17 => ?_)
                        · skip
                          obtain ⟨gv5, hg6⟩ : ∃ q, q = gv4 := ⟨_, rfl⟩
                          have hI5 : inv4 nc (RB nk nc fo th tg T nt up) gv5 gre4 := by rw [hg6]; exact hI4
                          have hp5 : pr4 nc v gv5 im4 := by rw [hg6]; exact hp4
                          have hm5 : ∀ j, gv j = true → gv5 j = true := by rw [hg6]; exact hm4
                          have hx5 := hx4
                          have hf5 : (fo y2 = 0 ∨ fo y2 = 2) → y2 + 1 < nc → gv5 (y2 + 1) = true := by rw [hg6]; exact hf1
                          have hg5 : ∀ j, j < nc → tg y2 = nI j → gv5 j = true := fun j hj q => absurd (q.symm.trans c_17) (nI_ne_m1 (by omega))
                          exact J_127 im4 gre4 gv5 _ _ _ hI5 hp5 hm5 hx5 hf5 hg5 hP hD hS (lv_sub hl [0, 1, 2] rfl)
                        · skip
                          skip
                          have htg : ∀ i, i = y2 → (fo i = 1 ∨ fo i = 2) := fun i hi => by
                            rw [hi]
                            rcases (hC y2 (by omega)).1 with ⟨-, q2⟩ | ⟨q2, -⟩
                            · exact absurd q2 (by assumption)
                            · exact q2
                          refine lv_aload_n hx hb dX4_reach_104 rfl (lv_at hl 0 rfl) ?_
                          refine lv_aload_n hx hb dX4_reach_105 rfl (lv_at hl 0 rfl) ?_
                          refine va_get (D := (dC, dI)) (ci := 4) (v := .ref (b 4)) (C := RX4) (T := TX4) (N := 20) hx hb hts (by decide +kernel) hown hK hP 0 rfl rfl 6 (by decide) (hts (.fieldLink RX4 23 "HandlerOptimizerModel" "targets" "[I") (by decide +kernel)) (fun _ h9 => h9) rfl dX4_reach_106 ?_
                          refine lv_iload_n hx hb dX4_reach_109 rfl (lv_at hl 2 rfl) ?_
                          refine va_iald hx hb hK hP 4 0 rfl rfl (vp_in_nI (n := y2) (by omega) (by decide)) dX4_reach_110 ?_
                          refine zz_top (y := tg y2) (congrArg _ (nI_clamp (by omega))) ?_
                          have hDc := hD
                          have hFc := va_free (wc := w4 b cI cZ tw nk pa nc fo th tg nt tb te tk tt ex tc es wy ab gre4 go be) hD hS hA [0, 1, 2, 3, 4, 5, 6, 7, 8, 9, 10, 11, 12] rfl
                          refine va_calli (va_runV (As := [.int (tg y2)]) (rest := []) ⟨hx, hb, hml, hown, hts⟩ (c_X4_mark l dC dI cI cZ cJ b tw nk pa nc fo th tg nt tb te tk tt ex tc es wy ab gre4 go be (tg y2) (RB nk nc fo th tg T nt up) gv4 H.size (by first | assumption | omega) (hI4) (fun j hj q => rB_step (by omega) (hI3.2 y2 c48).2 (Or.inr (Or.inl ⟨htg y2 rfl, q⟩)) hj)) (cwV 1 hts gX4_reach_X4_mark rfl rfl rfl (by decide +kernel) ⟨Nat.le_of_ble_eq_true rfl, Nat.le_of_ble_eq_true rfl⟩) ⟨zWr_blind, va_recv hK hP (ci := 4) (q0 := 0) rfl rfl, zWr_at hP hK hn (hDc.weaken (fun _ _ _ _ => trivial))⟩ rfl rfl hl.1 rfl (lv_room (Nat.le_of_ble_eq_true rfl)) dX4_reach_111 ⟨Nat.le_of_ble_eq_true rfl, Nat.le_of_ble_eq_true rfl⟩) hS (fun q _ h => hFc q h) hFc (fun r_18 u_9 t H1 locs ht hvm hw hB hz1 hk1 hS => ?_)
                          obtain ⟨re_n, mb_n⟩ := u_9
                          dsimp only at hw hB
                          obtain ⟨hP1, -, hD1⟩ := hB
                          rw [ht] at hP1
                          obtain ⟨hP, hD⟩ := va_join (wr := []) (w1 := w4 b cI cZ tw nk pa nc fo th tg nt tb te tk tt ex tc es wy ab re_n go be) hP hD [0, 1, 2, 3, 4, 5, 6, 7, 8, 9, 10, 11, 12] [] rfl rfl (by decide) (by decide) hk1 hFc hP1 hD1
                          generalize H1 = H at hP hS ⊢
                          have hP : va_P (dC, dI) vwCl (w4 b cI cZ tw nk pa nc fo th tg nt tb te tk tt ex tc es wy ab re_n go be) H := hP
                          have hD : va_D A (w4 b cI cZ tw nk pa nc fo th tg nt tb te tk tt ex tc es wy ab re_n go be) := hD
                          obtain ⟨hw0, hw⟩ := hw
                          subst hw0
                          obtain ⟨gv5, hm9, hv9⟩ := hw
                          have hI5 := hm9.1
                          have hm5 : ∀ j, gv j = true → gv5 j = true := fun j q => hm9.2.1 j (hm4 j q)
                          have hf5 : (fo y2 = 0 ∨ fo y2 = 2) → y2 + 1 < nc → gv5 (y2 + 1) = true := fun q1 q2 => hm9.2.1 _ (hf1 q1 q2)
                          have hg5 : ∀ j, j < nc → tg y2 = nI j → gv5 j = true := hv9
                          refine lv_if_ne (tgt := 121) hx hb dX4_reach_114 (by decide) (fun c_21 => ?_) (fun c_21 => ?_)
                          · skip
                            have c9 := zb_1.mp c_21
                            have hp5 : pr4 nc v gv5 true := by have q := pr4_mk hp4 hm9; rw [c9] at q; exact q
                            have hx5 : true = false → gim = false := fun q => by cases q
                            refine lv_iconst (v := 1) hx hb dX4_reach_121 (by decide) ?_
                            refine lv_goto (tgt := 126) hx hb dX4_reach_122 (by decide) ?_
                            refine lv_istore_n (lv' := [(1, .int 1), (0, .ref (b 0)), (2, .int (nI y2))]) hx hb dX4_reach_126 rfl hl (by decide) rfl (fun ls hl => ?_)
                            exact J_127 true re_n gv5 _ _ _ hI5 hp5 hm5 hx5 hf5 hg5 hP hD hS (lv_sub hl [1, 0, 2] rfl)
                          · skip
                            have c9 := zb_0.mp c_21
                            refine lv_iload_n hx hb dX4_reach_117 rfl (lv_at hl 1 rfl) ?_
                            refine lv_if_eq (tgt := 125) hx hb dX4_reach_118 (by decide) (fun c_22 => ?_) (fun c_22 => ?_)
                            · skip
                              have c8 := zb_0.mp c_22
                              have hp5 : pr4 nc v gv5 false := by have q := pr4_mk hp4 hm9; rw [c9, c8] at q; exact q
                              have hx5 : false = false → gim = false := fun _ => hx4 c8
                              refine lv_iconst (v := 0) hx hb dX4_reach_125 (by decide) ?_
                              refine lv_istore_n (lv' := [(1, .int 0), (0, .ref (b 0)), (2, .int (nI y2))]) hx hb dX4_reach_126 rfl hl (by decide) rfl (fun ls hl => ?_)
                              exact J_127 false re_n gv5 _ _ _ hI5 hp5 hm5 hx5 hf5 hg5 hP hD hS (lv_sub hl [1, 0, 2] rfl)
                            · skip
                              have c8 := zb_1.mp c_22
                              have hp5 : pr4 nc v gv5 true := by have q := pr4_mk hp4 hm9; rw [c9, c8] at q; exact q
                              have hx5 : true = false → gim = false := fun q => by cases q
                              refine lv_iconst (v := 1) hx hb dX4_reach_121 (by decide) ?_
                              refine lv_goto (tgt := 126) hx hb dX4_reach_122 (by decide) ?_
                              refine lv_istore_n (lv' := [(1, .int 1), (0, .ref (b 0)), (2, .int (nI y2))]) hx hb dX4_reach_126 rfl hl (by decide) rfl (fun ls hl => ?_)
                              exact J_127 true re_n gv5 _ _ _ hI5 hp5 hm5 hx5 hf5 hg5 hP hD hS (lv_sub hl [1, 0, 2] rfl)
                      refine lv_aload_n hx hb dX4_reach_55 rfl (lv_at hl 0 rfl) ?_
                      refine va_get (D := (dC, dI)) (ci := 4) (v := .ref (b 2)) (C := RX4) (T := TX4) (N := 20) hx hb hts (by decide +kernel) hown hK hP 0 rfl rfl 4 (by decide) (hts (.fieldLink RX4 17 "HandlerOptimizerModel" "forms" "[I") (by decide +kernel)) (fun _ h9 => h9) rfl dX4_reach_56 ?_
                      refine lv_iload_n hx hb dX4_reach_59 rfl (lv_at hl 2 rfl) ?_
                      refine va_iald hx hb hK hP 2 0 rfl rfl (vp_in_nI (n := y2) (by omega) (by decide)) dX4_reach_60 ?_
                      refine zz_top (y := fo y2) (congrArg _ (nI_clamp (by omega))) ?_
                      refine lv_if_eq (tgt := 74) hx hb dX4_reach_61 (by decide) (fun c_23 => ?_) (fun c_23 => ?_)
                      · skip
                        skip
                        refine lv_aload_n hx hb dX4_reach_74 rfl (lv_at hl 0 rfl) ?_
                        refine lv_iload_n hx hb dX4_reach_75 rfl (lv_at hl 2 rfl) ?_
                        refine lv_iconst (v := 1) hx hb dX4_reach_76 (by decide) ?_
                        refine lv_iadd hx hb dX4_reach_77 ?_
                        refine zz_top (y := nI (y2 + 1)) (nI_add _ _) ?_
                        have hDc := hD
                        have hFc := va_free (wc := w4 b cI cZ tw nk pa nc fo th tg nt tb te tk tt ex tc es wy ab gre3 go be) hD hS hA [0, 1, 2, 3, 4, 5, 6, 7, 8, 9, 10, 11, 12] rfl
                        refine va_calli (va_runV (As := [.int (nI (y2 + 1))]) (rest := []) ⟨hx, hb, hml, hown, hts⟩ (c_X4_mark l dC dI cI cZ cJ b tw nk pa nc fo th tg nt tb te tk tt ex tc es wy ab gre3 go be (nI (y2 + 1)) (RB nk nc fo th tg T nt up) gv H.size (by first | assumption | omega) (hI3) (fun j hj q => rB_step (by omega) (hI3.2 y2 c48).2 (Or.inl ⟨by first | exact Or.inl (by assumption) | exact Or.inr (by assumption), ((nI_eq (by omega) (by omega)).mp q).symm⟩) hj)) (cwV 1 hts gX4_reach_X4_mark rfl rfl rfl (by decide +kernel) ⟨Nat.le_of_ble_eq_true rfl, Nat.le_of_ble_eq_true rfl⟩) ⟨zWr_blind, va_recv hK hP (ci := 4) (q0 := 0) rfl rfl, zWr_at hP hK hn (hDc.weaken (fun _ _ _ _ => trivial))⟩ rfl rfl hl.1 rfl (lv_room (Nat.le_of_ble_eq_true rfl)) dX4_reach_78 ⟨Nat.le_of_ble_eq_true rfl, Nat.le_of_ble_eq_true rfl⟩) hS (fun q _ h => hFc q h) hFc (fun r_24 u_9 t H1 locs ht hvm hw hB hz1 hk1 hS => ?_)
                        obtain ⟨re_n, mb_n⟩ := u_9
                        dsimp only at hw hB
                        obtain ⟨hP1, -, hD1⟩ := hB
                        rw [ht] at hP1
                        obtain ⟨hP, hD⟩ := va_join (wr := []) (w1 := w4 b cI cZ tw nk pa nc fo th tg nt tb te tk tt ex tc es wy ab re_n go be) hP hD [0, 1, 2, 3, 4, 5, 6, 7, 8, 9, 10, 11, 12] [] rfl rfl (by decide) (by decide) hk1 hFc hP1 hD1
                        generalize H1 = H at hP hS ⊢
                        have hP : va_P (dC, dI) vwCl (w4 b cI cZ tw nk pa nc fo th tg nt tb te tk tt ex tc es wy ab re_n go be) H := hP
                        have hD : va_D A (w4 b cI cZ tw nk pa nc fo th tg nt tb te tk tt ex tc es wy ab re_n go be) := hD
                        obtain ⟨hw0, hw⟩ := hw
                        subst hw0
                        obtain ⟨gv5, hm9, hv9⟩ := hw
                        have hI5 := hm9.1
                        have hm5 : ∀ j, gv j = true → gv5 j = true := fun j q => hm9.2.1 j (q)
                        have hf5 : (fo y2 = 0 ∨ fo y2 = 2) → y2 + 1 < nc → gv5 (y2 + 1) = true := fun _ q => hv9 _ q rfl
                        refine lv_if_ne (tgt := 88) hx hb dX4_reach_81 (by decide) (fun c_27 => ?_) (fun c_27 => ?_)
                        · skip
                          have c9 := zb_1.mp c_27
                          have hp5 : pr4 nc v gv5 true := by have q := pr4_mk hp3 hm9; rw [c9] at q; exact q
                          have hx5 : true = false → gim = false := fun q => by cases q
                          refine lv_iconst (v := 1) hx hb dX4_reach_88 (by decide) ?_
                          refine lv_goto (tgt := 93) hx hb dX4_reach_89 (by decide) ?_
                          refine lv_istore_n (lv' := [(1, .int 1), (0, .ref (b 0)), (2, .int (nI y2))]) hx hb dX4_reach_93 rfl hl (by decide) rfl (fun ls hl => ?_)
                          exact J_94 true re_n gv5 _ _ _ hI5 hp5 hm5 hx5 hf5 hP hD hS (lv_sub hl [1, 0, 2] rfl)
                        · skip
                          have c9 := zb_0.mp c_27
                          refine lv_iload_n hx hb dX4_reach_84 rfl (lv_at hl 1 rfl) ?_
                          refine lv_if_eq (tgt := 92) hx hb dX4_reach_85 (by decide) (fun c_28 => ?_) (fun c_28 => ?_)
                          · skip
                            have c8 := zb_0.mp c_28
                            have hp5 : pr4 nc v gv5 false := by have q := pr4_mk hp3 hm9; rw [c9, c8] at q; exact q
                            have hx5 : false = false → gim = false := fun _ => c8
                            refine lv_iconst (v := 0) hx hb dX4_reach_92 (by decide) ?_
                            refine lv_istore_n (lv' := [(1, .int 0), (0, .ref (b 0)), (2, .int (nI y2))]) hx hb dX4_reach_93 rfl hl (by decide) rfl (fun ls hl => ?_)
                            exact J_94 false re_n gv5 _ _ _ hI5 hp5 hm5 hx5 hf5 hP hD hS (lv_sub hl [1, 0, 2] rfl)
                          · skip
                            have c8 := zb_1.mp c_28
                            have hp5 : pr4 nc v gv5 true := by have q := pr4_mk hp3 hm9; rw [c9, c8] at q; exact q
                            have hx5 : true = false → gim = false := fun q => by cases q
                            refine lv_iconst (v := 1) hx hb dX4_reach_88 (by decide) ?_
                            refine lv_goto (tgt := 93) hx hb dX4_reach_89 (by decide) ?_
                            refine lv_istore_n (lv' := [(1, .int 1), (0, .ref (b 0)), (2, .int (nI y2))]) hx hb dX4_reach_93 rfl hl (by decide) rfl (fun ls hl => ?_)
                            exact J_94 true re_n gv5 _ _ _ hI5 hp5 hm5 hx5 hf5 hP hD hS (lv_sub hl [1, 0, 2] rfl)
                      · skip
                        skip
                        refine lv_aload_n hx hb dX4_reach_64 rfl (lv_at hl 0 rfl) ?_
                        refine va_get (D := (dC, dI)) (ci := 4) (v := .ref (b 2)) (C := RX4) (T := TX4) (N := 20) hx hb hts (by decide +kernel) hown hK hP 0 rfl rfl 4 (by decide) (hts (.fieldLink RX4 17 "HandlerOptimizerModel" "forms" "[I") (by decide +kernel)) (fun _ h9 => h9) rfl dX4_reach_65 ?_
                        refine lv_iload_n hx hb dX4_reach_68 rfl (lv_at hl 2 rfl) ?_
                        refine va_iald hx hb hK hP 2 0 rfl rfl (vp_in_nI (n := y2) (by omega) (by decide)) dX4_reach_69 ?_
                        refine zz_top (y := fo y2) (congrArg _ (nI_clamp (by omega))) ?_
                        refine lv_iconst (v := 2) hx hb dX4_reach_70 (by decide) ?_
                        refine lv_icmp_ne (tgt := 94) hx hb dX4_reach_71 (by decide) (fun c_29 => ?_) (fun c_29 => ?_)
                        · skip
                          obtain ⟨gv5, hg6⟩ : ∃ q, q = gv := ⟨_, rfl⟩
                          have hI5 : inv4 nc (RB nk nc fo th tg T nt up) gv5 gre3 := by rw [hg6]; exact hI3
                          have hp5 : pr4 nc v gv5 gim := by rw [hg6]; exact hp3
                          have hm5 : ∀ j, gv j = true → gv5 j = true := fun j q => by rw [hg6]; exact q
                          have hx5 : gim = false → gim = false := fun q => q
                          have hf5 : (fo y2 = 0 ∨ fo y2 = 2) → y2 + 1 < nc → gv5 (y2 + 1) = true := fun q => absurd q (by simp [*])
                          exact J_94 gim gre3 gv5 _ _ _ hI5 hp5 hm5 hx5 hf5 hP hD hS (lv_sub hl [0, 1, 2] rfl)
                        · skip
                          skip
                          refine lv_aload_n hx hb dX4_reach_74 rfl (lv_at hl 0 rfl) ?_
                          refine lv_iload_n hx hb dX4_reach_75 rfl (lv_at hl 2 rfl) ?_
                          refine lv_iconst (v := 1) hx hb dX4_reach_76 (by decide) ?_
                          refine lv_iadd hx hb dX4_reach_77 ?_
                          refine zz_top (y := nI (y2 + 1)) (nI_add _ _) ?_
                          have hDc := hD
                          have hFc := va_free (wc := w4 b cI cZ tw nk pa nc fo th tg nt tb te tk tt ex tc es wy ab gre3 go be) hD hS hA [0, 1, 2, 3, 4, 5, 6, 7, 8, 9, 10, 11, 12] rfl
                          refine va_calli (va_runV (As := [.int (nI (y2 + 1))]) (rest := []) ⟨hx, hb, hml, hown, hts⟩ (c_X4_mark l dC dI cI cZ cJ b tw nk pa nc fo th tg nt tb te tk tt ex tc es wy ab gre3 go be (nI (y2 + 1)) (RB nk nc fo th tg T nt up) gv H.size (by first | assumption | omega) (hI3) (fun j hj q => rB_step (by omega) (hI3.2 y2 c48).2 (Or.inl ⟨by first | exact Or.inl (by assumption) | exact Or.inr (by assumption), ((nI_eq (by omega) (by omega)).mp q).symm⟩) hj)) (cwV 1 hts gX4_reach_X4_mark rfl rfl rfl (by decide +kernel) ⟨Nat.le_of_ble_eq_true rfl, Nat.le_of_ble_eq_true rfl⟩) ⟨zWr_blind, va_recv hK hP (ci := 4) (q0 := 0) rfl rfl, zWr_at hP hK hn (hDc.weaken (fun _ _ _ _ => trivial))⟩ rfl rfl hl.1 rfl (lv_room (Nat.le_of_ble_eq_true rfl)) dX4_reach_78 ⟨Nat.le_of_ble_eq_true rfl, Nat.le_of_ble_eq_true rfl⟩) hS (fun q _ h => hFc q h) hFc (fun r_30 u_9 t H1 locs ht hvm hw hB hz1 hk1 hS => ?_)
                          obtain ⟨re_n, mb_n⟩ := u_9
                          dsimp only at hw hB
                          obtain ⟨hP1, -, hD1⟩ := hB
                          rw [ht] at hP1
                          obtain ⟨hP, hD⟩ := va_join (wr := []) (w1 := w4 b cI cZ tw nk pa nc fo th tg nt tb te tk tt ex tc es wy ab re_n go be) hP hD [0, 1, 2, 3, 4, 5, 6, 7, 8, 9, 10, 11, 12] [] rfl rfl (by decide) (by decide) hk1 hFc hP1 hD1
                          generalize H1 = H at hP hS ⊢
                          have hP : va_P (dC, dI) vwCl (w4 b cI cZ tw nk pa nc fo th tg nt tb te tk tt ex tc es wy ab re_n go be) H := hP
                          have hD : va_D A (w4 b cI cZ tw nk pa nc fo th tg nt tb te tk tt ex tc es wy ab re_n go be) := hD
                          obtain ⟨hw0, hw⟩ := hw
                          subst hw0
                          obtain ⟨gv5, hm9, hv9⟩ := hw
                          have hI5 := hm9.1
                          have hm5 : ∀ j, gv j = true → gv5 j = true := fun j q => hm9.2.1 j (q)
                          have hf5 : (fo y2 = 0 ∨ fo y2 = 2) → y2 + 1 < nc → gv5 (y2 + 1) = true := fun _ q => hv9 _ q rfl
                          refine lv_if_ne (tgt := 88) hx hb dX4_reach_81 (by decide) (fun c_33 => ?_) (fun c_33 => ?_)
                          · skip
                            have c9 := zb_1.mp c_33
                            have hp5 : pr4 nc v gv5 true := by have q := pr4_mk hp3 hm9; rw [c9] at q; exact q
                            have hx5 : true = false → gim = false := fun q => by cases q
                            refine lv_iconst (v := 1) hx hb dX4_reach_88 (by decide) ?_
                            refine lv_goto (tgt := 93) hx hb dX4_reach_89 (by decide) ?_
                            refine lv_istore_n (lv' := [(1, .int 1), (0, .ref (b 0)), (2, .int (nI y2))]) hx hb dX4_reach_93 rfl hl (by decide) rfl (fun ls hl => ?_)
                            exact J_94 true re_n gv5 _ _ _ hI5 hp5 hm5 hx5 hf5 hP hD hS (lv_sub hl [1, 0, 2] rfl)
                          · skip
                            have c9 := zb_0.mp c_33
                            refine lv_iload_n hx hb dX4_reach_84 rfl (lv_at hl 1 rfl) ?_
                            refine lv_if_eq (tgt := 92) hx hb dX4_reach_85 (by decide) (fun c_34 => ?_) (fun c_34 => ?_)
                            · skip
                              have c8 := zb_0.mp c_34
                              have hp5 : pr4 nc v gv5 false := by have q := pr4_mk hp3 hm9; rw [c9, c8] at q; exact q
                              have hx5 : false = false → gim = false := fun _ => c8
                              refine lv_iconst (v := 0) hx hb dX4_reach_92 (by decide) ?_
                              refine lv_istore_n (lv' := [(1, .int 0), (0, .ref (b 0)), (2, .int (nI y2))]) hx hb dX4_reach_93 rfl hl (by decide) rfl (fun ls hl => ?_)
                              exact J_94 false re_n gv5 _ _ _ hI5 hp5 hm5 hx5 hf5 hP hD hS (lv_sub hl [1, 0, 2] rfl)
                            · skip
                              have c8 := zb_1.mp c_34
                              have hp5 : pr4 nc v gv5 true := by have q := pr4_mk hp3 hm9; rw [c9, c8] at q; exact q
                              have hx5 : true = false → gim = false := fun q => by cases q
                              refine lv_iconst (v := 1) hx hb dX4_reach_88 (by decide) ?_
                              refine lv_goto (tgt := 93) hx hb dX4_reach_89 (by decide) ?_
                              refine lv_istore_n (lv' := [(1, .int 1), (0, .ref (b 0)), (2, .int (nI y2))]) hx hb dX4_reach_93 rfl hl (by decide) rfl (fun ls hl => ?_)
                              exact J_94 true re_n gv5 _ _ _ hI5 hp5 hm5 hx5 hf5 hP hD hS (lv_sub hl [1, 0, 2] rfl)
                    · skip
                      have c48 := zb_0.mp c_7
                      obtain ⟨gv6, hg6⟩ : ∃ q, q = gv := ⟨_, rfl⟩
                      have hI6 : inv4 nc (RB nk nc fo th tg T nt up) gv6 gre3 := by rw [hg6]; exact hI3
                      have hp6 : pr4 nc v gv6 gim := by rw [hg6]; exact hp3
                      have hd6 : gim = false → ∀ x, x < y2 + 1 → v x = true → ∀ q, q < nc → ed nk fo th tg (gl T nt up) x q → v q = true := fun q x hx hvx => by
                        by_cases d : x = y2
                        · subst d; rw [hp3.1 x hvx] at c48; cases c48
                        · exact hd3 q x (by omega) hvx
                      refine lv_goto (tgt := 179) hx hb dX4_reach_52 (by decide) ?_
                      exact J_179 gim gre3 gv6 _ _ _ hI6 hp6 hd6 hP hD hS (lv_sub hl [0, 1, 2] rfl)
              exact J_35 _ 0 false gre2 v _ _ _ (by first | assumption | omega) hI pr4_rf (fun _ x hx => absurd hx (Nat.not_lt_zero x)) (Nat.lt_succ_self _) hP hD hS (lv_sub hl [2, 1, 0] rfl)
        exact J_27 _ mb_n re_n v9 _ _ _ hm9.1 (fun q => hv9 0 q rfl) (by
                intro q x hx hvx
                subst q
                rw [hm9.2.2.2 rfl] at hvx
                cases hvx) (Nat.lt_succ_self _) hP hD hS (lv_sub hl [1, 0] rfl)
      · skip
        have c_1 := (zz_gef (a := y) (b := 48) (by omega) (by omega)).mp c_1
        refine lv_aload_n hx hb dX4_reach_8 rfl (lv_at hl 0 rfl) ?_
        refine va_get (D := (dC, dI)) (ci := 4) (v := .ref (b 10)) (C := RX4) (T := TX4) (N := 20) hx hb hts (by decide +kernel) hown hK hP 0 rfl rfl 17 (by decide) (hts (.fieldLink RX4 44 "HandlerOptimizerModel" "areReached" "[Z") (by decide +kernel)) (fun _ h9 => h9) rfl dX4_reach_9 ?_
        refine lv_iload_n hx hb dX4_reach_12 rfl (lv_at hl 1 rfl) ?_
        refine lv_iconst (v := 0) hx hb dX4_reach_13 (by decide) ?_
        refine va_zast hx hb hK hP hD hS 10 1 rfl rfl (vp_in_nI (n := y) (by omega) (by decide)) dX4_reach_14 (fun H locs hP hD hS => ?_)
        rw [nI_clamp (n := y) (by omega)] at hP hD
        rw [zz_nz0] at hP hD
        have hP : va_P (dC, dI) vwCl (w4 b cI cZ tw nk pa nc fo th tg nt tb te tk tt ex tc es wy ab (upd gre y 0) go be) H := hP
        have hD : va_D A (w4 b cI cZ tw nk pa nc fo th tg nt tb te tk tt ex tc es wy ab (upd gre y 0) go be) := hD
        refine lv_iinc (v := nI (y + 1)) (lv' := [(1, .int (nI (y + 1))), (0, .ref (b 0))]) hx hb dX4_reach_15 hl (k := 1) rfl (zz_inc y 1) (by decide) rfl (fun ls hl => ?_)
        refine lv_goto (tgt := 2) hx hb dX4_reach_18 (by decide) ?_
        exact ih_2 (y + 1) (upd gre y 0) _ _ _ (by first | assumption | omega) (by
                intro j hj
                by_cases d : j = y
                · subst d; simp [upd]
                · simp only [upd, if_neg d]; exact hz j (by omega)) (by omega) hP hD hS (lv_sub hl [1, 0] rfl)
  exact J_2 _ 0 re _ _ _ (by first | assumption | omega) lt_0 (Nat.lt_succ_self _) hP hD hS (lv_sub hl [1, 0] rfl)

set_option maxHeartbeats 4000000 in
set_option maxRecDepth 100000 in
theorem c_X4_takes (l : Launch) (dC : Nat → ClassId) (dI : Nat → Nat → Nat) (cI cZ cJ : ClassId) (b : Nat → Nat) (tw : Int32) (nk : Nat) (pa : Nat → Int32) (nc : Nat) (fo : Nat → Int32) (th : Nat → Int32) (tg : Nat → Int32) (nt : Nat) (tb : Nat → Int32) (te : Nat → Int32) (tk : Nat → Int32) (tt : Nat → Int32) (ex : Int32) (tc : Int32) (es : Int32) (wy : Int64) (ab : Nat → Int32) (re : Nat → Int32) (go : Nat → Int32) (be : Nat → Int32) (ei : Nat) (i : Nat) (T : Nat → Nat → Nat) (up : Nat → Nat → Bool) (v : Nat → Bool) (hg : g4 nk ab up nt tb te tk tt T) (hc : okC nk nc fo th tg) (hi : i < 48) (hei : ei < nt) (hre : ∀ j, j < 48 → re j = bI (v j)) : Met l yX4_takes wsX4_takes ({ frames := 2, cells := 0, slots := 0, locals := 44 } : Room) (va_Pc [.ref (b 0), .int (nI ei), .int (nI i)] (zPre (dC, dI) [(cI, .int), (cZ, .boolean), (cJ, .long)] (w4 b cI cZ tw nk pa nc fo th tg nt tb te tk tt ex tc es wy ab re go be))) (va_Qi (fun (r : Int32) (_ : Unit) => r = bI (v i && an (fun k => bt (th i) k && decide (tkf T nt up i k = ei)) nk)) (fun _ _ => True) (fun _ => False)) 0 0 (fun _ => False) := by
  refine Met.ofW (cc := cX4_takes) (maxL := 5) (ret := (some .boolean)) (by decide) rfl ?_
  intro p e s m args below meth c s₁ B hml hv
  obtain ⟨hav, hP, hK, hn⟩ := hv
  have hx := B.exec
  have hb := B.bytes
  have hr := B.returns
  have hts := atoms_spec (ws := wsX4_takes) B.pre
  have hown : s.vm.findClass RX4 = some m.cls := findClass_of_methodNamed B.named
  have hlocks := B.notSynchronized
  have hS : va_S (fun _ => False) s.heap s.heap [] := va_S.rf
  generalize hQ : MQ below (va_Qi (fun (r : Int32) (_ : Unit) => r = bI (v i && an (fun k => bt (th i) k && decide (tkf T nt up i k = ei)) nk)) (fun _ _ => True) (fun _ => False)) args s 0 0 (fun _ => False) = Q
  refine W.eq (g2 := entryFrame m ([.ref (b 0), .int (nI ei), .int (nI i)] : List Value).toArray 5) (by rw [hav]) ?_
  have hl := lv_entry ([.ref (b 0), .int (nI ei), .int (nI i)]) (n := 5) (Nat.le_of_ble_eq_true rfl)
  rw [lg_entry_eq]
  generalize (lg_sl ([.ref (b 0), .int (nI ei), .int (nI i)]) ++ List.replicate (5 - (lg_sl ([.ref (b 0), .int (nI ei), .int (nI i)])).length) Slot.unset).toArray = ls at hl ⊢
  have hl : lv_has ls 5 [(0, .ref (b 0)), (1, .int (nI ei)), (2, .int (nI i))] := hl
  obtain ⟨H, hH⟩ : ∃ H, H = s.heap := ⟨_, rfl⟩
  obtain ⟨locs, hlo⟩ : ∃ q : List Loc, q = [] := ⟨_, rfl⟩
  have hP : va_P (dC, dI) vwCl (w4 b cI cZ tw nk pa nc fo th tg nt tb te tk tt ex tc es wy ab re go be) H := by rw [hH]; exact hP
  have hS : va_S (fun _ => False) s.heap H locs := by rw [hH, hlo]; exact hS
  refine zz_hl hH hlo ?_
  obtain ⟨hk01, hk8, hnt, hT, hO, hF, hU⟩ := id hg
  obtain ⟨hnc, hC⟩ := id hc
  refine lv_iconst (v := 0) hx hb dX4_takes_0 (by decide) ?_
  refine lv_istore_n (lv' := [(3, .int 0), (0, .ref (b 0)), (1, .int (nI ei)), (2, .int (nI i))]) hx hb dX4_takes_1 rfl hl (by decide) rfl (fun ls hl => ?_)
  refine lv_iconst (v := 0) hx hb dX4_takes_2 (by decide) ?_
  refine lv_istore (lv' := [(4, .int 0), (3, .int 0), (0, .ref (b 0)), (1, .int (nI ei)), (2, .int (nI i))]) hx hb dX4_takes_3 hl (by decide) rfl (fun ls hl => ?_)
  have J_5 : ∀ (n9 : Nat) (z : Nat) (ib : Bool) (H : Heap) (locs : List Loc) (ls : Array Slot), (z ≤ nk) → (ib = (v i && an (fun k => bt (th i) k && decide (tkf T nt up i k = ei)) z)) → nk - z < n9 → va_P (dC, dI) vwCl (w4 b cI cZ tw nk pa nc fo th tg nt tb te tk tt ex tc es wy ab re go be) H → va_S (fun _ => False) s.heap H locs → lv_has ls 5 [(0, .ref (b 0)), (1, .int (nI ei)), (2, .int (nI i)), (3, .int (bI ib)), (4, .int (nI z))] → W p l e (headSpec wsX4_takes ({ frames := 2, cells := 0, slots := 0, locals := 44 } : Room)).room s m args below meth c H locs 0 0 Q (F0 m 5 ls []) := by
    intro n9
    induction n9 with
    | zero => intro z ib H locs ls hz hib hmu; exact absurd hmu (Nat.not_lt_zero _)
    | succ n9 ih_5 =>
      intro z ib H locs ls hz hib hmu hP hS hl
      refine lv_iload hx hb dX4_takes_5 (lv_at hl 4 rfl) ?_
      refine lv_aload_n hx hb dX4_takes_7 rfl (lv_at hl 0 rfl) ?_
      refine va_get (D := (dC, dI)) (ci := 4) (v := .int (nI nk)) (C := RX4) (T := TX4) (N := 20) hx hb hts (by decide +kernel) hown hK hP 0 rfl rfl 1 (by decide) (hts (.fieldLink RX4 7 "HandlerOptimizerModel" "kinds" "I") (by decide +kernel)) (fun _ h9 => h9) rfl dX4_takes_8 ?_
      refine lv_icmp_ge (tgt := 64) hx hb dX4_takes_11 (by decide) (fun c_1 => ?_) (fun c_1 => ?_)
      · skip
        have c5 := (zz_get (a := z) (b := nk) (by omega) (by omega)).mp c_1
        refine lv_iload_n hx hb dX4_takes_64 rfl (lv_at hl 3 rfl) ?_
        rw [← hQ]
        exact W.zret (v := bI ib) hx hb hr (zz_nb _) (fun t ht hW => ⟨⟨bI ib, (), rfl, (by rw [hib]; first | (rw [show z = nk from by omega]; done) | (rw [c9]; rfl)), trivial⟩, hS.F ht⟩) hS.2.2 dX4_takes_65
      · skip
        have c_1 := (zz_gef (a := z) (b := nk) (by omega) (by omega)).mp c_1
        refine lv_aload_n hx hb dX4_takes_14 rfl (lv_at hl 0 rfl) ?_
        refine va_get (D := (dC, dI)) (ci := 4) (v := .ref (b 10)) (C := RX4) (T := TX4) (N := 20) hx hb hts (by decide +kernel) hown hK hP 0 rfl rfl 17 (by decide) (hts (.fieldLink RX4 44 "HandlerOptimizerModel" "areReached" "[Z") (by decide +kernel)) (fun _ h9 => h9) rfl dX4_takes_15 ?_
        refine lv_iload_n hx hb dX4_takes_18 rfl (lv_at hl 2 rfl) ?_
        refine va_zald hx hb hK hP 10 1 rfl rfl (vp_in_nI (n := i) (by omega) (by decide)) dX4_takes_19 ?_
        refine zz_top (y := re i) (congrArg _ (nI_clamp (by omega))) ?_
        refine zz_top (y := bI (v i)) (hre i hi) ?_
        refine lv_if_eq (tgt := 64) hx hb dX4_takes_20 (by decide) (fun c_2 => ?_) (fun c_2 => ?_)
        · skip
          have c9 := zb_0.mp c_2
          refine lv_iload_n hx hb dX4_takes_64 rfl (lv_at hl 3 rfl) ?_
          rw [← hQ]
          exact W.zret (v := bI ib) hx hb hr (zz_nb _) (fun t ht hW => ⟨⟨bI ib, (), rfl, (by rw [hib]; first | (rw [show z = nk from by omega]; done) | (rw [c9]; rfl)), trivial⟩, hS.F ht⟩) hS.2.2 dX4_takes_65
        · skip
          have c9 := zb_1.mp c_2
          refine lv_iload_n hx hb dX4_takes_23 rfl (lv_at hl 3 rfl) ?_
          refine lv_if_ne (tgt := 52) hx hb dX4_takes_24 (by decide) (fun c_3 => ?_) (fun c_3 => ?_)
          · skip
            have c8 := zb_1.mp c_3
            refine lv_iconst (v := 1) hx hb dX4_takes_52 (by decide) ?_
            refine lv_goto (tgt := 57) hx hb dX4_takes_53 (by decide) ?_
            refine lv_istore_n (lv' := [(3, .int 1), (0, .ref (b 0)), (1, .int (nI ei)), (2, .int (nI i)), (4, .int (nI z))]) hx hb dX4_takes_57 rfl hl (by decide) rfl (fun ls hl => ?_)
            refine lv_iinc (v := nI (z + 1)) (lv' := [(4, .int (nI (z + 1))), (3, .int 1), (0, .ref (b 0)), (1, .int (nI ei)), (2, .int (nI i))]) hx hb dX4_takes_58 hl (k := 4) rfl (zz_inc z 1) (by decide) rfl (fun ls hl => ?_)
            refine lv_goto (tgt := 5) hx hb dX4_takes_61 (by decide) ?_
            exact ih_5 (z + 1) true _ _ _ (by first | assumption | omega) (by rw [an_or]; simp_all) (by omega) hP hS (lv_sub hl [2, 3, 4, 1, 0] rfl)
          · skip
            have c8 := zb_0.mp c_3
            refine lv_aload_n hx hb dX4_takes_27 rfl (lv_at hl 0 rfl) ?_
            refine va_get (D := (dC, dI)) (ci := 4) (v := .ref (b 3)) (C := RX4) (T := TX4) (N := 20) hx hb hts (by decide +kernel) hown hK hP 0 rfl rfl 5 (by decide) (hts (.fieldLink RX4 20 "HandlerOptimizerModel" "errors" "[I") (by decide +kernel)) (fun _ h9 => h9) rfl dX4_takes_28 ?_
            refine lv_iload_n hx hb dX4_takes_31 rfl (lv_at hl 2 rfl) ?_
            refine va_iald hx hb hK hP 3 0 rfl rfl (vp_in_nI (n := i) (by omega) (by decide)) dX4_takes_32 ?_
            refine zz_top (y := th i) (congrArg _ (nI_clamp (by omega))) ?_
            refine lv_iload hx hb dX4_takes_33 (lv_at hl 4 rfl) ?_
            have hPc : va_P (dC, dI) vwCl [] H := fun k q h => by simp at h
            refine va_calli (va_runS (As := [.int (th i), .int (nI z)]) (rest := []) ⟨hx, hb, hml, hown, hts⟩ (c_X4_has l dC dI cI cZ cJ (th i) z (by omega)) (va_cwS 2 hts gX4_takes_X4_has rfl rfl rfl (by decide +kernel) ⟨Nat.le_of_ble_eq_true rfl, Nat.le_of_ble_eq_true rfl⟩) ⟨zPre_blind, zPre_at hPc hK hn⟩ rfl rfl hl.1 rfl (lv_room (Nat.le_of_ble_eq_true rfl)) dX4_takes_35 ⟨Nat.le_of_ble_eq_true rfl, Nat.le_of_ble_eq_true rfl⟩) hS (fun _ _ h => h.elim) (fun _ h => h.elim) (fun r_4 u_9 t H locs ht hvm hw hB hz1 hk1 hS => ?_)
            have hP := zkeep hP hk1
            subst hw
            refine lv_if_eq (tgt := 56) hx hb dX4_takes_38 (by decide) (fun c_5 => ?_) (fun c_5 => ?_)
            · skip
              have c7 := zb_0.mp c_5
              refine lv_iconst (v := 0) hx hb dX4_takes_56 (by decide) ?_
              refine lv_istore_n (lv' := [(3, .int 0), (0, .ref (b 0)), (1, .int (nI ei)), (2, .int (nI i)), (4, .int (nI z))]) hx hb dX4_takes_57 rfl hl (by decide) rfl (fun ls hl => ?_)
              refine lv_iinc (v := nI (z + 1)) (lv' := [(4, .int (nI (z + 1))), (3, .int 0), (0, .ref (b 0)), (1, .int (nI ei)), (2, .int (nI i))]) hx hb dX4_takes_58 hl (k := 4) rfl (zz_inc z 1) (by decide) rfl (fun ls hl => ?_)
              refine lv_goto (tgt := 5) hx hb dX4_takes_61 (by decide) ?_
              exact ih_5 (z + 1) false _ _ _ (by first | assumption | omega) (by rw [an_or]; simp_all) (by omega) hP hS (lv_sub hl [2, 3, 4, 1, 0] rfl)
            · skip
              have c7 := zb_1.mp c_5
              refine lv_aload_n hx hb dX4_takes_41 rfl (lv_at hl 0 rfl) ?_
              refine lv_iload_n hx hb dX4_takes_42 rfl (lv_at hl 2 rfl) ?_
              refine lv_iload hx hb dX4_takes_43 (lv_at hl 4 rfl) ?_
              refine va_calli (va_runV (As := [.int (nI i), .int (nI z)]) (rest := []) ⟨hx, hb, hml, hown, hts⟩ (c_X4_takerOf l dC dI cI cZ cJ b tw nk pa nc fo th tg nt tb te tk tt ex tc es wy ab re go be i z T up (by first | assumption | omega) (by first | assumption | omega) (hi) (by omega)) (cwV 2 hts gX4_takes_X4_takerOf rfl rfl rfl (by decide +kernel) ⟨Nat.le_of_ble_eq_true rfl, Nat.le_of_ble_eq_true rfl⟩) ⟨zPre_blind, va_recv hK hP (ci := 4) (q0 := 0) rfl rfl, zPre_at hP hK hn⟩ rfl rfl hl.1 rfl (lv_room (Nat.le_of_ble_eq_true rfl)) dX4_takes_45 ⟨Nat.le_of_ble_eq_true rfl, Nat.le_of_ble_eq_true rfl⟩) hS (fun _ _ h => h.elim) (fun _ h => h.elim) (fun r_6 u_9 t H locs ht hvm hw hB hz1 hk1 hS => ?_)
              have hP := zkeep hP hk1
              subst hw
              refine lv_iload_n hx hb dX4_takes_48 rfl (lv_at hl 1 rfl) ?_
              refine lv_icmp_ne (tgt := 56) hx hb dX4_takes_49 (by decide) (fun c_7 => ?_) (fun c_7 => ?_)
              · skip
                have c6 : ¬ tkf T nt up i z = ei := fun q => c_7 (by rw [tkI_at (by omega), q])
                refine lv_iconst (v := 0) hx hb dX4_takes_56 (by decide) ?_
                refine lv_istore_n (lv' := [(3, .int 0), (0, .ref (b 0)), (1, .int (nI ei)), (2, .int (nI i)), (4, .int (nI z))]) hx hb dX4_takes_57 rfl hl (by decide) rfl (fun ls hl => ?_)
                refine lv_iinc (v := nI (z + 1)) (lv' := [(4, .int (nI (z + 1))), (3, .int 0), (0, .ref (b 0)), (1, .int (nI ei)), (2, .int (nI i))]) hx hb dX4_takes_58 hl (k := 4) rfl (zz_inc z 1) (by decide) rfl (fun ls hl => ?_)
                refine lv_goto (tgt := 5) hx hb dX4_takes_61 (by decide) ?_
                exact ih_5 (z + 1) false _ _ _ (by first | assumption | omega) (by rw [an_or]; simp_all) (by omega) hP hS (lv_sub hl [2, 3, 4, 1, 0] rfl)
              · skip
                have c6 : tkf T nt up i z = ei := by
                  have q1 := tkI_lt (T := T) (nt := nt) (up := up) (i := i) (k := z) (by omega) (by rw [c_7]; exact nI_ne_m1 (by omega))
                  exact (nI_eq (by omega) (by omega)).mp ((tkI_at q1).symm.trans c_7)
                refine lv_iconst (v := 1) hx hb dX4_takes_52 (by decide) ?_
                refine lv_goto (tgt := 57) hx hb dX4_takes_53 (by decide) ?_
                refine lv_istore_n (lv' := [(3, .int 1), (0, .ref (b 0)), (1, .int (nI ei)), (2, .int (nI i)), (4, .int (nI z))]) hx hb dX4_takes_57 rfl hl (by decide) rfl (fun ls hl => ?_)
                refine lv_iinc (v := nI (z + 1)) (lv' := [(4, .int (nI (z + 1))), (3, .int 1), (0, .ref (b 0)), (1, .int (nI ei)), (2, .int (nI i))]) hx hb dX4_takes_58 hl (k := 4) rfl (zz_inc z 1) (by decide) rfl (fun ls hl => ?_)
                refine lv_goto (tgt := 5) hx hb dX4_takes_61 (by decide) ?_
                exact ih_5 (z + 1) true _ _ _ (by first | assumption | omega) (by rw [an_or]; simp_all) (by omega) hP hS (lv_sub hl [2, 3, 4, 1, 0] rfl)
  exact J_5 _ 0 false _ _ _ (by first | assumption | omega) (by simp [an]) (Nat.lt_succ_self _) hP hS (lv_sub hl [2, 3, 4, 1, 0] rfl)

set_option maxHeartbeats 4000000 in
set_option maxRecDepth 100000 in
theorem c_X4_isTaking (l : Launch) (dC : Nat → ClassId) (dI : Nat → Nat → Nat) (cI cZ cJ : ClassId) (b : Nat → Nat) (tw : Int32) (nk : Nat) (pa : Nat → Int32) (nc : Nat) (fo : Nat → Int32) (th : Nat → Int32) (tg : Nat → Int32) (nt : Nat) (tb : Nat → Int32) (te : Nat → Int32) (tk : Nat → Int32) (tt : Nat → Int32) (ex : Int32) (tc : Int32) (es : Int32) (wy : Int64) (ab : Nat → Int32) (re : Nat → Int32) (go : Nat → Int32) (be : Nat → Int32) (ei : Nat) (T : Nat → Nat → Nat) (up : Nat → Nat → Bool) (v : Nat → Bool) (hg : g4 nk ab up nt tb te tk tt T) (hc : okC nk nc fo th tg) (hei : ei < nt) (hre : ∀ j, j < 48 → re j = bI (v j)) : Met l yX4_isTaking wsX4_isTaking ({ frames := 3, cells := 0, slots := 0, locals := 68 } : Room) (va_Pc [.ref (b 0), .int (nI ei)] (zPre (dC, dI) [(cI, .int), (cZ, .boolean), (cJ, .long)] (w4 b cI cZ tw nk pa nc fo th tg nt tb te tk tt ex tc es wy ab re go be))) (va_Qi (fun (r : Int32) (_ : Unit) => r = bI (an (fun j9 => v j9 && an (fun k9 => bt (th j9) k9 && decide (tkf T nt up j9 k9 = ei)) nk) nc)) (fun _ _ => True) (fun _ => False)) 0 0 (fun _ => False) := by
  refine Met.ofW (cc := cX4_isTaking) (maxL := 4) (ret := (some .boolean)) (by decide) rfl ?_
  intro p e s m args below meth c s₁ B hml hv
  obtain ⟨hav, hP, hK, hn⟩ := hv
  have hx := B.exec
  have hb := B.bytes
  have hr := B.returns
  have hts := atoms_spec (ws := wsX4_isTaking) B.pre
  have hown : s.vm.findClass RX4 = some m.cls := findClass_of_methodNamed B.named
  have hlocks := B.notSynchronized
  have hS : va_S (fun _ => False) s.heap s.heap [] := va_S.rf
  generalize hQ : MQ below (va_Qi (fun (r : Int32) (_ : Unit) => r = bI (an (fun j9 => v j9 && an (fun k9 => bt (th j9) k9 && decide (tkf T nt up j9 k9 = ei)) nk) nc)) (fun _ _ => True) (fun _ => False)) args s 0 0 (fun _ => False) = Q
  refine W.eq (g2 := entryFrame m ([.ref (b 0), .int (nI ei)] : List Value).toArray 4) (by rw [hav]) ?_
  have hl := lv_entry ([.ref (b 0), .int (nI ei)]) (n := 4) (Nat.le_of_ble_eq_true rfl)
  rw [lg_entry_eq]
  generalize (lg_sl ([.ref (b 0), .int (nI ei)]) ++ List.replicate (4 - (lg_sl ([.ref (b 0), .int (nI ei)])).length) Slot.unset).toArray = ls at hl ⊢
  have hl : lv_has ls 4 [(0, .ref (b 0)), (1, .int (nI ei))] := hl
  obtain ⟨H, hH⟩ : ∃ H, H = s.heap := ⟨_, rfl⟩
  obtain ⟨locs, hlo⟩ : ∃ q : List Loc, q = [] := ⟨_, rfl⟩
  have hP : va_P (dC, dI) vwCl (w4 b cI cZ tw nk pa nc fo th tg nt tb te tk tt ex tc es wy ab re go be) H := by rw [hH]; exact hP
  have hS : va_S (fun _ => False) s.heap H locs := by rw [hH, hlo]; exact hS
  refine zz_hl hH hlo ?_
  obtain ⟨hk01, hk8, hnt, hT, hO, hF, hU⟩ := id hg
  obtain ⟨hnc, hC⟩ := id hc
  refine lv_iconst (v := 0) hx hb dX4_isTaking_0 (by decide) ?_
  refine lv_istore_n (lv' := [(2, .int 0), (0, .ref (b 0)), (1, .int (nI ei))]) hx hb dX4_isTaking_1 rfl hl (by decide) rfl (fun ls hl => ?_)
  refine lv_iconst (v := 0) hx hb dX4_isTaking_2 (by decide) ?_
  refine lv_istore_n (lv' := [(3, .int 0), (2, .int 0), (0, .ref (b 0)), (1, .int (nI ei))]) hx hb dX4_isTaking_3 rfl hl (by decide) rfl (fun ls hl => ?_)
  have J_4 : ∀ (n9 : Nat) (z : Nat) (ib : Bool) (H : Heap) (locs : List Loc) (ls : Array Slot), (z ≤ nc) → (ib = an (fun i => v i && an (fun k => bt (th i) k && decide (tkf T nt up i k = ei)) nk) z) → nc - z < n9 → va_P (dC, dI) vwCl (w4 b cI cZ tw nk pa nc fo th tg nt tb te tk tt ex tc es wy ab re go be) H → va_S (fun _ => False) s.heap H locs → lv_has ls 4 [(0, .ref (b 0)), (1, .int (nI ei)), (2, .int (bI ib)), (3, .int (nI z))] → W p l e (headSpec wsX4_isTaking ({ frames := 3, cells := 0, slots := 0, locals := 68 } : Room)).room s m args below meth c H locs 0 0 Q (F0 m 4 ls []) := by
    intro n9
    induction n9 with
    | zero => intro z ib H locs ls hz hib hmu; exact absurd hmu (Nat.not_lt_zero _)
    | succ n9 ih_4 =>
      intro z ib H locs ls hz hib hmu hP hS hl
      refine lv_iload_n hx hb dX4_isTaking_4 rfl (lv_at hl 3 rfl) ?_
      refine lv_aload_n hx hb dX4_isTaking_5 rfl (lv_at hl 0 rfl) ?_
      refine va_get (D := (dC, dI)) (ci := 4) (v := .int (nI nc)) (C := RX4) (T := TX4) (N := 20) hx hb hts (by decide +kernel) hown hK hP 0 rfl rfl 3 (by decide) (hts (.fieldLink RX4 61 "HandlerOptimizerModel" "size" "I") (by decide +kernel)) (fun _ h9 => h9) rfl dX4_isTaking_6 ?_
      refine lv_icmp_ge (tgt := 37) hx hb dX4_isTaking_9 (by decide) (fun c_1 => ?_) (fun c_1 => ?_)
      · skip
        have c_1 := (zz_get (a := z) (b := nc) (by omega) (by omega)).mp c_1
        refine lv_iload_n hx hb dX4_isTaking_37 rfl (lv_at hl 2 rfl) ?_
        rw [← hQ]
        exact W.zret (v := bI ib) hx hb hr (zz_nb _) (fun t ht hW => ⟨⟨bI ib, (), rfl, (by rw [hib, show z = nc from by omega]), trivial⟩, hS.F ht⟩) hS.2.2 dX4_isTaking_38
      · skip
        have c_1 := (zz_gef (a := z) (b := nc) (by omega) (by omega)).mp c_1
        refine lv_iload_n hx hb dX4_isTaking_12 rfl (lv_at hl 2 rfl) ?_
        refine lv_if_ne (tgt := 25) hx hb dX4_isTaking_13 (by decide) (fun c_2 => ?_) (fun c_2 => ?_)
        · skip
          have c9 := zb_1.mp c_2
          refine lv_iconst (v := 1) hx hb dX4_isTaking_25 (by decide) ?_
          refine lv_goto (tgt := 30) hx hb dX4_isTaking_26 (by decide) ?_
          refine lv_istore_n (lv' := [(2, .int 1), (0, .ref (b 0)), (1, .int (nI ei)), (3, .int (nI z))]) hx hb dX4_isTaking_30 rfl hl (by decide) rfl (fun ls hl => ?_)
          refine lv_iinc (v := nI (z + 1)) (lv' := [(3, .int (nI (z + 1))), (2, .int 1), (0, .ref (b 0)), (1, .int (nI ei))]) hx hb dX4_isTaking_31 hl (k := 3) rfl (zz_inc z 1) (by decide) rfl (fun ls hl => ?_)
          refine lv_goto (tgt := 4) hx hb dX4_isTaking_34 (by decide) ?_
          exact ih_4 (z + 1) true _ _ _ (by first | assumption | omega) (by rw [an_or, ← hib]; first | (rw [c9]; rfl) | (rw [c9]; exact c8.symm)) (by omega) hP hS (lv_sub hl [2, 3, 1, 0] rfl)
        · skip
          have c9 := zb_0.mp c_2
          refine lv_aload_n hx hb dX4_isTaking_16 rfl (lv_at hl 0 rfl) ?_
          refine lv_iload_n hx hb dX4_isTaking_17 rfl (lv_at hl 1 rfl) ?_
          refine lv_iload_n hx hb dX4_isTaking_18 rfl (lv_at hl 3 rfl) ?_
          refine va_calli (va_runV (As := [.int (nI ei), .int (nI z)]) (rest := []) ⟨hx, hb, hml, hown, hts⟩ (c_X4_takes l dC dI cI cZ cJ b tw nk pa nc fo th tg nt tb te tk tt ex tc es wy ab re go be ei z T up v (by first | assumption | omega) (by first | assumption | omega) (by omega) (by first | assumption | omega) (by first | assumption | omega)) (cwV 2 hts gX4_isTaking_X4_takes rfl rfl rfl (by decide +kernel) ⟨Nat.le_of_ble_eq_true rfl, Nat.le_of_ble_eq_true rfl⟩) ⟨zPre_blind, va_recv hK hP (ci := 4) (q0 := 0) rfl rfl, zPre_at hP hK hn⟩ rfl rfl hl.1 rfl (lv_room (Nat.le_of_ble_eq_true rfl)) dX4_isTaking_19 ⟨Nat.le_of_ble_eq_true rfl, Nat.le_of_ble_eq_true rfl⟩) hS (fun _ _ h => h.elim) (fun _ h => h.elim) (fun r_3 u_9 t H locs ht hvm hw hB hz1 hk1 hS => ?_)
          have hP := zkeep hP hk1
          subst hw
          refine lv_if_eq (tgt := 29) hx hb dX4_isTaking_22 (by decide) (fun c_4 => ?_) (fun c_4 => ?_)
          · skip
            have c8 := zb_0.mp c_4
            refine lv_iconst (v := 0) hx hb dX4_isTaking_29 (by decide) ?_
            refine lv_istore_n (lv' := [(2, .int 0), (0, .ref (b 0)), (1, .int (nI ei)), (3, .int (nI z))]) hx hb dX4_isTaking_30 rfl hl (by decide) rfl (fun ls hl => ?_)
            refine lv_iinc (v := nI (z + 1)) (lv' := [(3, .int (nI (z + 1))), (2, .int 0), (0, .ref (b 0)), (1, .int (nI ei))]) hx hb dX4_isTaking_31 hl (k := 3) rfl (zz_inc z 1) (by decide) rfl (fun ls hl => ?_)
            refine lv_goto (tgt := 4) hx hb dX4_isTaking_34 (by decide) ?_
            exact ih_4 (z + 1) false _ _ _ (by first | assumption | omega) (by rw [an_or, ← hib]; first | (rw [c9]; rfl) | (rw [c9]; exact c8.symm)) (by omega) hP hS (lv_sub hl [2, 3, 1, 0] rfl)
          · skip
            have c8 := zb_1.mp c_4
            refine lv_iconst (v := 1) hx hb dX4_isTaking_25 (by decide) ?_
            refine lv_goto (tgt := 30) hx hb dX4_isTaking_26 (by decide) ?_
            refine lv_istore_n (lv' := [(2, .int 1), (0, .ref (b 0)), (1, .int (nI ei)), (3, .int (nI z))]) hx hb dX4_isTaking_30 rfl hl (by decide) rfl (fun ls hl => ?_)
            refine lv_iinc (v := nI (z + 1)) (lv' := [(3, .int (nI (z + 1))), (2, .int 1), (0, .ref (b 0)), (1, .int (nI ei))]) hx hb dX4_isTaking_31 hl (k := 3) rfl (zz_inc z 1) (by decide) rfl (fun ls hl => ?_)
            refine lv_goto (tgt := 4) hx hb dX4_isTaking_34 (by decide) ?_
            exact ih_4 (z + 1) true _ _ _ (by first | assumption | omega) (by rw [an_or, ← hib]; first | (rw [c9]; rfl) | (rw [c9]; exact c8.symm)) (by omega) hP hS (lv_sub hl [2, 3, 1, 0] rfl)
  exact J_4 _ 0 false _ _ _ (by first | assumption | omega) rfl (Nat.lt_succ_self _) hP hS (lv_sub hl [2, 3, 1, 0] rfl)

set_option maxHeartbeats 4000000 in
set_option maxRecDepth 100000 in
theorem c_X4_isReached (l : Launch) (dC : Nat → ClassId) (dI : Nat → Nat → Nat) (cI cZ cJ : ClassId) (b : Nat → Nat) (tw : Int32) (nk : Nat) (pa : Nat → Int32) (nc : Nat) (fo : Nat → Int32) (th : Nat → Int32) (tg : Nat → Int32) (nt : Nat) (tb : Nat → Int32) (te : Nat → Int32) (tk : Nat → Int32) (tt : Nat → Int32) (ex : Int32) (tc : Int32) (es : Int32) (wy : Int64) (ab : Nat → Int32) (re : Nat → Int32) (go : Nat → Int32) (be : Nat → Int32) (x : Int32) (T : Nat → Nat → Nat) (up : Nat → Nat → Bool) (sz : Nat) (hg : g4 nk ab up nt tb te tk tt T) (hc : okC nk nc fo th tg) : Met l yX4_isReached wsX4_isReached ({ frames := 4, cells := 0, slots := 0, locals := 90 } : Room) (va_Pc [.ref (b 0), .int x] (zWr (dC, dI) [(cI, .int), (cZ, .boolean), (cJ, .long)] (w4 b cI cZ tw nk pa nc fo th tg nt tb te tk tt ex tc es wy ab re go be) sz)) (va_Qi (fun (r : Int32) (u : Int32 × (Nat → Int32)) => match u with | (tw9, re9) => (hasI x nc = true ∧ tw9 = 0 ∧ r = bI (RB nk nc fo th tg T nt up x.toNatClampNeg)) ∨ (hasI x nc = false ∧ tw9 = 1)) (fun u t => match u with | (tw9, re9) => zWo (dC, dI) [(cI, .int), (cZ, .boolean), (cJ, .long)] (w4 b cI cZ tw9 nk pa nc fo th tg nt tb te tk tt ex tc es wy ab re9 go be) (va_A (w4 b cI cZ tw nk pa nc fo th tg nt tb te tk tt ex tc es wy ab re go be) sz) t) (va_A (w4 b cI cZ tw nk pa nc fo th tg nt tb te tk tt ex tc es wy ab re go be) sz)) 0 0 (va_A (w4 b cI cZ tw nk pa nc fo th tg nt tb te tk tt ex tc es wy ab re go be) sz) := by
  refine Met.ofW (cc := cX4_isReached) (maxL := 2) (ret := (some .boolean)) (by decide) rfl ?_
  intro p e s m args below meth c s₁ B hml hv
  obtain ⟨hav, hsz, ⟨hP, hK, hn⟩, hD0⟩ := hv
  have hx := B.exec
  have hb := B.bytes
  have hr := B.returns
  have hts := atoms_spec (ws := wsX4_isReached) B.pre
  have hown : s.vm.findClass RX4 = some m.cls := findClass_of_methodNamed B.named
  have hlocks := B.notSynchronized
  subst hsz
  have hD := hD0.self (sz := s.heap.size)
  generalize hAe : (va_A (w4 b cI cZ tw nk pa nc fo th tg nt tb te tk tt ex tc es wy ab re go be) s.heap.size) = A at hD ⊢
  have hA : ∀ q : Nat, s.heap.size ≤ q → A q := fun q h => by rw [← hAe]; exact Or.inr h
  have hS : va_S A s.heap s.heap [] := va_S.rf
  generalize hQ : MQ below (va_Qi (fun (r : Int32) (u : Int32 × (Nat → Int32)) => match u with | (tw9, re9) => (hasI x nc = true ∧ tw9 = 0 ∧ r = bI (RB nk nc fo th tg T nt up x.toNatClampNeg)) ∨ (hasI x nc = false ∧ tw9 = 1)) (fun u t => match u with | (tw9, re9) => zWo (dC, dI) [(cI, .int), (cZ, .boolean), (cJ, .long)] (w4 b cI cZ tw9 nk pa nc fo th tg nt tb te tk tt ex tc es wy ab re9 go be) A t) A) args s 0 0 A = Q
  refine W.eq (g2 := entryFrame m ([.ref (b 0), .int x] : List Value).toArray 2) (by rw [hav]) ?_
  have hl := lv_entry ([.ref (b 0), .int x]) (n := 2) (Nat.le_of_ble_eq_true rfl)
  rw [lg_entry_eq]
  generalize (lg_sl ([.ref (b 0), .int x]) ++ List.replicate (2 - (lg_sl ([.ref (b 0), .int x])).length) Slot.unset).toArray = ls at hl ⊢
  have hl : lv_has ls 2 [(0, .ref (b 0)), (1, .int x)] := hl
  obtain ⟨H, hH⟩ : ∃ H, H = s.heap := ⟨_, rfl⟩
  obtain ⟨locs, hlo⟩ : ∃ q : List Loc, q = [] := ⟨_, rfl⟩
  have hP : va_P (dC, dI) vwCl (w4 b cI cZ tw nk pa nc fo th tg nt tb te tk tt ex tc es wy ab re go be) H := by rw [hH]; exact hP
  have hS : va_S A s.heap H locs := by rw [hH, hlo]; exact hS
  refine zz_hl hH hlo ?_
  obtain ⟨hk01, hk8, hnt, hT, hO, hF, hU⟩ := id hg
  obtain ⟨hnc, hC⟩ := id hc
  refine lv_aload_n hx hb dX4_isReached_0 rfl (lv_at hl 0 rfl) ?_
  refine lv_aload_n hx hb dX4_isReached_1 rfl (lv_at hl 0 rfl) ?_
  refine lv_iload_n hx hb dX4_isReached_2 rfl (lv_at hl 1 rfl) ?_
  refine va_calli (va_runV (As := [.int x]) (rest := [.ref (b 0)]) ⟨hx, hb, hml, hown, hts⟩ (c_X4_isInstruction l dC dI cI cZ cJ b tw nk pa nc fo th tg nt tb te tk tt ex tc es wy ab re go be x (by omega)) (cwV 1 hts gX4_isReached_X4_isInstruction rfl rfl rfl (by decide +kernel) ⟨Nat.le_of_ble_eq_true rfl, Nat.le_of_ble_eq_true rfl⟩) ⟨zPre_blind, va_recv hK hP (ci := 4) (q0 := 0) rfl rfl, zPre_at hP hK hn⟩ rfl rfl hl.1 rfl (lv_room (Nat.le_of_ble_eq_true rfl)) dX4_isReached_3 ⟨Nat.le_of_ble_eq_true rfl, Nat.le_of_ble_eq_true rfl⟩) hS (fun _ _ h => h.elim) (fun _ h => h.elim) (fun r_1 u_9 t H locs ht hvm hw hB hz1 hk1 hS => ?_)
  have hP := zkeep hP hk1
  subst hw
  refine lv_if_eq (tgt := 13) hx hb dX4_isReached_6 (by decide) (fun c_2 => ?_) (fun c_2 => ?_)
  · skip
    have c9 := zb_0.mp c_2
    refine lv_iconst (v := 1) hx hb dX4_isReached_13 (by decide) ?_
    refine va_put (D := (dC, dI)) (ci := 4) (v := .int 1) (ty := .int) (C := RX4) (T := TX4) (N := 20) hx hb hts (by decide +kernel) tyX4 tyX4_ok nmX4 hown hK hP hD hS 0 rfl rfl 0 (by decide) (hts (.fieldLink RX4 54 "HandlerOptimizerModel" "thrown" "I") (by decide +kernel)) (fun _ h9 => h9) rfl (by decide +kernel) rfl rfl (Nat.le_of_ble_eq_true rfl) dX4_isReached_14 (fun H locs hP hD hS => ?_)
    have hP : va_P (dC, dI) vwCl (w4 b cI cZ 1 nk pa nc fo th tg nt tb te tk tt ex tc es wy ab re go be) H := hP
    have hD : va_D A (w4 b cI cZ 1 nk pa nc fo th tg nt tb te tk tt ex tc es wy ab re go be) := hD
    refine lv_aload_n hx hb dX4_isReached_17 rfl (lv_at hl 0 rfl) ?_
    refine va_get (D := (dC, dI)) (ci := 4) (v := .int 1) (C := RX4) (T := TX4) (N := 20) hx hb hts (by decide +kernel) hown hK hP 0 rfl rfl 0 (by decide) (hts (.fieldLink RX4 54 "HandlerOptimizerModel" "thrown" "I") (by decide +kernel)) (fun _ h9 => h9) rfl dX4_isReached_18 ?_
    refine lv_if_eq (tgt := 26) hx hb dX4_isReached_21 (by decide) (fun c_3 => ?_) (fun c_3 => ?_)
    · exact absurd c_3 (by decide)
    · skip
      refine lv_iconst (v := 0) hx hb dX4_isReached_24 (by decide) ?_
      rw [← hQ]
      have hP9 := hP
      have hD9 := hD
      exact W.zret (v := 0) hx hb hr rfl (fun t ht hW => ⟨⟨0, (1, re), rfl, (Or.inr ⟨c9, rfl⟩), (by rw [ht]; exact hP9), va_K.moved hW.alike hK, hD9⟩, hS.F ht⟩) hS.2.2 dX4_isReached_25
  · skip
    have c9 := zb_1.mp c_2
    obtain ⟨i, hi, rfl⟩ := hasI_at (by omega) c9
    refine lv_iconst (v := 0) hx hb dX4_isReached_9 (by decide) ?_
    refine lv_goto (tgt := 14) hx hb dX4_isReached_10 (by decide) ?_
    refine va_put (D := (dC, dI)) (ci := 4) (v := .int 0) (ty := .int) (C := RX4) (T := TX4) (N := 20) hx hb hts (by decide +kernel) tyX4 tyX4_ok nmX4 hown hK hP hD hS 0 rfl rfl 0 (by decide) (hts (.fieldLink RX4 54 "HandlerOptimizerModel" "thrown" "I") (by decide +kernel)) (fun _ h9 => h9) rfl (by decide +kernel) rfl rfl (Nat.le_of_ble_eq_true rfl) dX4_isReached_14 (fun H locs hP hD hS => ?_)
    have hP : va_P (dC, dI) vwCl (w4 b cI cZ 0 nk pa nc fo th tg nt tb te tk tt ex tc es wy ab re go be) H := hP
    have hD : va_D A (w4 b cI cZ 0 nk pa nc fo th tg nt tb te tk tt ex tc es wy ab re go be) := hD
    refine lv_aload_n hx hb dX4_isReached_17 rfl (lv_at hl 0 rfl) ?_
    refine va_get (D := (dC, dI)) (ci := 4) (v := .int 0) (C := RX4) (T := TX4) (N := 20) hx hb hts (by decide +kernel) hown hK hP 0 rfl rfl 0 (by decide) (hts (.fieldLink RX4 54 "HandlerOptimizerModel" "thrown" "I") (by decide +kernel)) (fun _ h9 => h9) rfl dX4_isReached_18 ?_
    refine lv_if_eq (tgt := 26) hx hb dX4_isReached_21 (by decide) (fun c_4 => ?_) (fun c_4 => ?_)
    · skip
      refine lv_aload_n hx hb dX4_isReached_26 rfl (lv_at hl 0 rfl) ?_
      have hDc := hD
      have hFc := va_free (wc := w4 b cI cZ 0 nk pa nc fo th tg nt tb te tk tt ex tc es wy ab re go be) hD hS hA [0, 1, 2, 3, 4, 5, 6, 7, 8, 9, 10, 11, 12] rfl
      refine va_callv (va_runV (As := []) (rest := []) ⟨hx, hb, hml, hown, hts⟩ (c_X4_reach l dC dI cI cZ cJ b 0 nk pa nc fo th tg nt tb te tk tt ex tc es wy ab re go be T up H.size (by first | assumption | omega) (by first | assumption | omega)) (cwV 0 hts gX4_isReached_X4_reach rfl rfl rfl (by decide +kernel) ⟨Nat.le_of_ble_eq_true rfl, Nat.le_of_ble_eq_true rfl⟩) ⟨zWr_blind, va_recv hK hP (ci := 4) (q0 := 0) rfl rfl, zWr_at hP hK hn (hDc.weaken (fun _ _ _ _ => trivial))⟩ rfl rfl hl.1 rfl (lv_room (Nat.le_of_ble_eq_true rfl)) dX4_isReached_27 ⟨Nat.le_of_ble_eq_true rfl, Nat.le_of_ble_eq_true rfl⟩) hS (fun q _ h => hFc q h) hFc (fun u_9 t H1 locs ht hvm hw hB hz1 hk1 hS => ?_)
      obtain ⟨re_n, rfl⟩ : ∃ z, z = u_9 := ⟨_, rfl⟩
      obtain ⟨hP1, -, hD1⟩ := hB
      rw [ht] at hP1
      obtain ⟨hP, hD⟩ := va_join (wr := []) (w1 := w4 b cI cZ 0 nk pa nc fo th tg nt tb te tk tt ex tc es wy ab re_n go be) hP hD [0, 1, 2, 3, 4, 5, 6, 7, 8, 9, 10, 11, 12] [] rfl rfl (by decide) (by decide) hk1 hFc hP1 hD1
      generalize H1 = H at hP hS ⊢
      have hP : va_P (dC, dI) vwCl (w4 b cI cZ 0 nk pa nc fo th tg nt tb te tk tt ex tc es wy ab re_n go be) H := hP
      have hD : va_D A (w4 b cI cZ 0 nk pa nc fo th tg nt tb te tk tt ex tc es wy ab re_n go be) := hD
      have hre := hw
      refine lv_aload_n hx hb dX4_isReached_30 rfl (lv_at hl 0 rfl) ?_
      refine va_get (D := (dC, dI)) (ci := 4) (v := .ref (b 10)) (C := RX4) (T := TX4) (N := 20) hx hb hts (by decide +kernel) hown hK hP 0 rfl rfl 17 (by decide) (hts (.fieldLink RX4 44 "HandlerOptimizerModel" "areReached" "[Z") (by decide +kernel)) (fun _ h9 => h9) rfl dX4_isReached_31 ?_
      refine lv_iload_n hx hb dX4_isReached_34 rfl (lv_at hl 1 rfl) ?_
      refine va_zald hx hb hK hP 10 1 rfl rfl (vp_in_nI (n := i) (by omega) (by decide)) dX4_isReached_35 ?_
      refine zz_top (y := re_n i) (congrArg _ (nI_clamp (by omega))) ?_
      refine zz_top (y := bI (RB nk nc fo th tg T nt up i)) (hre i (by omega)) ?_
      rw [← hQ]
      have hP9 := hP
      have hD9 := hD
      exact W.zret (v := bI (RB nk nc fo th tg T nt up i)) hx hb hr (zz_nb _) (fun t ht hW => ⟨⟨bI (RB nk nc fo th tg T nt up i), (0, re_n), rfl, (Or.inl ⟨c9, rfl, by rw [nI_clamp (by omega)]⟩), (by rw [ht]; exact hP9), va_K.moved hW.alike hK, hD9⟩, hS.F ht⟩) hS.2.2 dX4_isReached_36
    · exact absurd c_4 (by decide)

set_option maxHeartbeats 4000000 in
set_option maxRecDepth 100000 in
theorem c_X4_isUsed (l : Launch) (dC : Nat → ClassId) (dI : Nat → Nat → Nat) (cI cZ cJ : ClassId) (b : Nat → Nat) (tw : Int32) (nk : Nat) (pa : Nat → Int32) (nc : Nat) (fo : Nat → Int32) (th : Nat → Int32) (tg : Nat → Int32) (nt : Nat) (tb : Nat → Int32) (te : Nat → Int32) (tk : Nat → Int32) (tt : Nat → Int32) (ex : Int32) (tc : Int32) (es : Int32) (wy : Int64) (ab : Nat → Int32) (re : Nat → Int32) (go : Nat → Int32) (be : Nat → Int32) (x : Int32) (T : Nat → Nat → Nat) (up : Nat → Nat → Bool) (sz : Nat) (hg : g4 nk ab up nt tb te tk tt T) (hc : okC nk nc fo th tg) : Met l yX4_isUsed wsX4_isUsed ({ frames := 4, cells := 0, slots := 0, locals := 91 } : Room) (va_Pc [.ref (b 0), .int x] (zWr (dC, dI) [(cI, .int), (cZ, .boolean), (cJ, .long)] (w4 b cI cZ tw nk pa nc fo th tg nt tb te tk tt ex tc es wy ab re go be) sz)) (va_Qi (fun (r : Int32) (u : Int32 × (Nat → Int32)) => match u with | (tw9, re9) => (hasI x nt = true ∧ tw9 = 0 ∧ r = bI (an (US nk nc fo th tg T nt up x.toNatClampNeg) nc)) ∨ (hasI x nt = false ∧ tw9 = 1)) (fun u t => match u with | (tw9, re9) => zWo (dC, dI) [(cI, .int), (cZ, .boolean), (cJ, .long)] (w4 b cI cZ tw9 nk pa nc fo th tg nt tb te tk tt ex tc es wy ab re9 go be) (va_A (w4 b cI cZ tw nk pa nc fo th tg nt tb te tk tt ex tc es wy ab re go be) sz) t) (va_A (w4 b cI cZ tw nk pa nc fo th tg nt tb te tk tt ex tc es wy ab re go be) sz)) 0 0 (va_A (w4 b cI cZ tw nk pa nc fo th tg nt tb te tk tt ex tc es wy ab re go be) sz) := by
  refine Met.ofW (cc := cX4_isUsed) (maxL := 2) (ret := (some .boolean)) (by decide) rfl ?_
  intro p e s m args below meth c s₁ B hml hv
  obtain ⟨hav, hsz, ⟨hP, hK, hn⟩, hD0⟩ := hv
  have hx := B.exec
  have hb := B.bytes
  have hr := B.returns
  have hts := atoms_spec (ws := wsX4_isUsed) B.pre
  have hown : s.vm.findClass RX4 = some m.cls := findClass_of_methodNamed B.named
  have hlocks := B.notSynchronized
  subst hsz
  have hD := hD0.self (sz := s.heap.size)
  generalize hAe : (va_A (w4 b cI cZ tw nk pa nc fo th tg nt tb te tk tt ex tc es wy ab re go be) s.heap.size) = A at hD ⊢
  have hA : ∀ q : Nat, s.heap.size ≤ q → A q := fun q h => by rw [← hAe]; exact Or.inr h
  have hS : va_S A s.heap s.heap [] := va_S.rf
  generalize hQ : MQ below (va_Qi (fun (r : Int32) (u : Int32 × (Nat → Int32)) => match u with | (tw9, re9) => (hasI x nt = true ∧ tw9 = 0 ∧ r = bI (an (US nk nc fo th tg T nt up x.toNatClampNeg) nc)) ∨ (hasI x nt = false ∧ tw9 = 1)) (fun u t => match u with | (tw9, re9) => zWo (dC, dI) [(cI, .int), (cZ, .boolean), (cJ, .long)] (w4 b cI cZ tw9 nk pa nc fo th tg nt tb te tk tt ex tc es wy ab re9 go be) A t) A) args s 0 0 A = Q
  refine W.eq (g2 := entryFrame m ([.ref (b 0), .int x] : List Value).toArray 2) (by rw [hav]) ?_
  have hl := lv_entry ([.ref (b 0), .int x]) (n := 2) (Nat.le_of_ble_eq_true rfl)
  rw [lg_entry_eq]
  generalize (lg_sl ([.ref (b 0), .int x]) ++ List.replicate (2 - (lg_sl ([.ref (b 0), .int x])).length) Slot.unset).toArray = ls at hl ⊢
  have hl : lv_has ls 2 [(0, .ref (b 0)), (1, .int x)] := hl
  obtain ⟨H, hH⟩ : ∃ H, H = s.heap := ⟨_, rfl⟩
  obtain ⟨locs, hlo⟩ : ∃ q : List Loc, q = [] := ⟨_, rfl⟩
  have hP : va_P (dC, dI) vwCl (w4 b cI cZ tw nk pa nc fo th tg nt tb te tk tt ex tc es wy ab re go be) H := by rw [hH]; exact hP
  have hS : va_S A s.heap H locs := by rw [hH, hlo]; exact hS
  refine zz_hl hH hlo ?_
  obtain ⟨hk01, hk8, hnt, hT, hO, hF, hU⟩ := id hg
  obtain ⟨hnc, hC⟩ := id hc
  refine lv_aload_n hx hb dX4_isUsed_0 rfl (lv_at hl 0 rfl) ?_
  refine lv_aload_n hx hb dX4_isUsed_1 rfl (lv_at hl 0 rfl) ?_
  refine lv_iload_n hx hb dX4_isUsed_2 rfl (lv_at hl 1 rfl) ?_
  refine va_calli (va_runV (As := [.int x]) (rest := [.ref (b 0)]) ⟨hx, hb, hml, hown, hts⟩ (c_X4_isEntry l dC dI cI cZ cJ b tw nk pa nc fo th tg nt tb te tk tt ex tc es wy ab re go be x (by omega)) (cwV 1 hts gX4_isUsed_X4_isEntry rfl rfl rfl (by decide +kernel) ⟨Nat.le_of_ble_eq_true rfl, Nat.le_of_ble_eq_true rfl⟩) ⟨zPre_blind, va_recv hK hP (ci := 4) (q0 := 0) rfl rfl, zPre_at hP hK hn⟩ rfl rfl hl.1 rfl (lv_room (Nat.le_of_ble_eq_true rfl)) dX4_isUsed_3 ⟨Nat.le_of_ble_eq_true rfl, Nat.le_of_ble_eq_true rfl⟩) hS (fun _ _ h => h.elim) (fun _ h => h.elim) (fun r_1 u_9 t H locs ht hvm hw hB hz1 hk1 hS => ?_)
  have hP := zkeep hP hk1
  subst hw
  refine lv_if_eq (tgt := 13) hx hb dX4_isUsed_6 (by decide) (fun c_2 => ?_) (fun c_2 => ?_)
  · skip
    have c9 := zb_0.mp c_2
    refine lv_iconst (v := 1) hx hb dX4_isUsed_13 (by decide) ?_
    refine va_put (D := (dC, dI)) (ci := 4) (v := .int 1) (ty := .int) (C := RX4) (T := TX4) (N := 20) hx hb hts (by decide +kernel) tyX4 tyX4_ok nmX4 hown hK hP hD hS 0 rfl rfl 0 (by decide) (hts (.fieldLink RX4 54 "HandlerOptimizerModel" "thrown" "I") (by decide +kernel)) (fun _ h9 => h9) rfl (by decide +kernel) rfl rfl (Nat.le_of_ble_eq_true rfl) dX4_isUsed_14 (fun H locs hP hD hS => ?_)
    have hP : va_P (dC, dI) vwCl (w4 b cI cZ 1 nk pa nc fo th tg nt tb te tk tt ex tc es wy ab re go be) H := hP
    have hD : va_D A (w4 b cI cZ 1 nk pa nc fo th tg nt tb te tk tt ex tc es wy ab re go be) := hD
    refine lv_aload_n hx hb dX4_isUsed_17 rfl (lv_at hl 0 rfl) ?_
    refine va_get (D := (dC, dI)) (ci := 4) (v := .int 1) (C := RX4) (T := TX4) (N := 20) hx hb hts (by decide +kernel) hown hK hP 0 rfl rfl 0 (by decide) (hts (.fieldLink RX4 54 "HandlerOptimizerModel" "thrown" "I") (by decide +kernel)) (fun _ h9 => h9) rfl dX4_isUsed_18 ?_
    refine lv_if_eq (tgt := 26) hx hb dX4_isUsed_21 (by decide) (fun c_3 => ?_) (fun c_3 => ?_)
    · exact absurd c_3 (by decide)
    · skip
      refine lv_iconst (v := 0) hx hb dX4_isUsed_24 (by decide) ?_
      rw [← hQ]
      have hP9 := hP
      have hD9 := hD
      exact W.zret (v := 0) hx hb hr rfl (fun t ht hW => ⟨⟨0, (1, re), rfl, (Or.inr ⟨c9, rfl⟩), (by rw [ht]; exact hP9), va_K.moved hW.alike hK, hD9⟩, hS.F ht⟩) hS.2.2 dX4_isUsed_25
  · skip
    have c9 := zb_1.mp c_2
    obtain ⟨i, hi, rfl⟩ := hasI_at (by omega) c9
    refine lv_iconst (v := 0) hx hb dX4_isUsed_9 (by decide) ?_
    refine lv_goto (tgt := 14) hx hb dX4_isUsed_10 (by decide) ?_
    refine va_put (D := (dC, dI)) (ci := 4) (v := .int 0) (ty := .int) (C := RX4) (T := TX4) (N := 20) hx hb hts (by decide +kernel) tyX4 tyX4_ok nmX4 hown hK hP hD hS 0 rfl rfl 0 (by decide) (hts (.fieldLink RX4 54 "HandlerOptimizerModel" "thrown" "I") (by decide +kernel)) (fun _ h9 => h9) rfl (by decide +kernel) rfl rfl (Nat.le_of_ble_eq_true rfl) dX4_isUsed_14 (fun H locs hP hD hS => ?_)
    have hP : va_P (dC, dI) vwCl (w4 b cI cZ 0 nk pa nc fo th tg nt tb te tk tt ex tc es wy ab re go be) H := hP
    have hD : va_D A (w4 b cI cZ 0 nk pa nc fo th tg nt tb te tk tt ex tc es wy ab re go be) := hD
    refine lv_aload_n hx hb dX4_isUsed_17 rfl (lv_at hl 0 rfl) ?_
    refine va_get (D := (dC, dI)) (ci := 4) (v := .int 0) (C := RX4) (T := TX4) (N := 20) hx hb hts (by decide +kernel) hown hK hP 0 rfl rfl 0 (by decide) (hts (.fieldLink RX4 54 "HandlerOptimizerModel" "thrown" "I") (by decide +kernel)) (fun _ h9 => h9) rfl dX4_isUsed_18 ?_
    refine lv_if_eq (tgt := 26) hx hb dX4_isUsed_21 (by decide) (fun c_4 => ?_) (fun c_4 => ?_)
    · skip
      refine lv_aload_n hx hb dX4_isUsed_26 rfl (lv_at hl 0 rfl) ?_
      have hDc := hD
      have hFc := va_free (wc := w4 b cI cZ 0 nk pa nc fo th tg nt tb te tk tt ex tc es wy ab re go be) hD hS hA [0, 1, 2, 3, 4, 5, 6, 7, 8, 9, 10, 11, 12] rfl
      refine va_callv (va_runV (As := []) (rest := []) ⟨hx, hb, hml, hown, hts⟩ (c_X4_reach l dC dI cI cZ cJ b 0 nk pa nc fo th tg nt tb te tk tt ex tc es wy ab re go be T up H.size (by first | assumption | omega) (by first | assumption | omega)) (cwV 0 hts gX4_isUsed_X4_reach rfl rfl rfl (by decide +kernel) ⟨Nat.le_of_ble_eq_true rfl, Nat.le_of_ble_eq_true rfl⟩) ⟨zWr_blind, va_recv hK hP (ci := 4) (q0 := 0) rfl rfl, zWr_at hP hK hn (hDc.weaken (fun _ _ _ _ => trivial))⟩ rfl rfl hl.1 rfl (lv_room (Nat.le_of_ble_eq_true rfl)) dX4_isUsed_27 ⟨Nat.le_of_ble_eq_true rfl, Nat.le_of_ble_eq_true rfl⟩) hS (fun q _ h => hFc q h) hFc (fun u_9 t H1 locs ht hvm hw hB hz1 hk1 hS => ?_)
      obtain ⟨re_n, rfl⟩ : ∃ z, z = u_9 := ⟨_, rfl⟩
      obtain ⟨hP1, -, hD1⟩ := hB
      rw [ht] at hP1
      obtain ⟨hP, hD⟩ := va_join (wr := []) (w1 := w4 b cI cZ 0 nk pa nc fo th tg nt tb te tk tt ex tc es wy ab re_n go be) hP hD [0, 1, 2, 3, 4, 5, 6, 7, 8, 9, 10, 11, 12] [] rfl rfl (by decide) (by decide) hk1 hFc hP1 hD1
      generalize H1 = H at hP hS ⊢
      have hP : va_P (dC, dI) vwCl (w4 b cI cZ 0 nk pa nc fo th tg nt tb te tk tt ex tc es wy ab re_n go be) H := hP
      have hD : va_D A (w4 b cI cZ 0 nk pa nc fo th tg nt tb te tk tt ex tc es wy ab re_n go be) := hD
      have hre := hw
      refine lv_aload_n hx hb dX4_isUsed_30 rfl (lv_at hl 0 rfl) ?_
      refine lv_iload_n hx hb dX4_isUsed_31 rfl (lv_at hl 1 rfl) ?_
      refine va_calli (va_runV (As := [.int (nI i)]) (rest := []) ⟨hx, hb, hml, hown, hts⟩ (c_X4_isTaking l dC dI cI cZ cJ b 0 nk pa nc fo th tg nt tb te tk tt ex tc es wy ab re_n go be i T up (RB nk nc fo th tg T nt up) (by first | assumption | omega) (by first | assumption | omega) (hi) (hre)) (cwV 1 hts gX4_isUsed_X4_isTaking rfl rfl rfl (by decide +kernel) ⟨Nat.le_of_ble_eq_true rfl, Nat.le_of_ble_eq_true rfl⟩) ⟨zPre_blind, va_recv hK hP (ci := 4) (q0 := 0) rfl rfl, zPre_at hP hK hn⟩ rfl rfl hl.1 rfl (lv_room (Nat.le_of_ble_eq_true rfl)) dX4_isUsed_32 ⟨Nat.le_of_ble_eq_true rfl, Nat.le_of_ble_eq_true rfl⟩) hS (fun _ _ h => h.elim) (fun _ h => h.elim) (fun r_7 u_9 t H locs ht hvm hw hB hz1 hk1 hS => ?_)
      have hP := zkeep hP hk1
      subst hw
      rw [← hQ]
      have hP9 := hP
      have hD9 := hD
      exact W.zret (v := bI (an (fun j9 => (RB nk nc fo th tg T nt up) j9 && an (fun k9 => bt (th j9) k9 && decide (tkf T nt up j9 k9 = i)) nk) nc)) hx hb hr (zz_nb _) (fun t ht hW => ⟨⟨bI (an (fun j9 => (RB nk nc fo th tg T nt up) j9 && an (fun k9 => bt (th j9) k9 && decide (tkf T nt up j9 k9 = i)) nk) nc), (0, re_n), rfl, (Or.inl ⟨c9, rfl, by rw [nI_clamp (by omega)]; rfl⟩), (by rw [ht]; exact hP9), va_K.moved hW.alike hK, hD9⟩, hS.F ht⟩) hS.2.2 dX4_isUsed_35
    · exact absurd c_4 (by decide)

set_option maxHeartbeats 4000000 in
set_option maxRecDepth 100000 in
theorem c_X4_leaving (l : Launch) (dC : Nat → ClassId) (dI : Nat → Nat → Nat) (cI cZ cJ : ClassId) (b : Nat → Nat) (tw : Int32) (nk : Nat) (pa : Nat → Int32) (nc : Nat) (fo : Nat → Int32) (th : Nat → Int32) (tg : Nat → Int32) (nt : Nat) (tb : Nat → Int32) (te : Nat → Int32) (tk : Nat → Int32) (tt : Nat → Int32) (ex : Int32) (tc : Int32) (es : Int32) (wy : Int64) (ab : Nat → Int32) (re : Nat → Int32) (go : Nat → Int32) (be : Nat → Int32) (T : Nat → Nat → Nat) (up : Nat → Nat → Bool) (sz : Nat) (hg : g4 nk ab up nt tb te tk tt T) (hc : okC nk nc fo th tg) : Met l yX4_leaving wsX4_leaving ({ frames := 4, cells := 0, slots := 0, locals := 90 } : Room) (va_Pc [.ref (b 0)] (zWr (dC, dI) [(cI, .int), (cZ, .boolean), (cJ, .long)] (w4 b cI cZ tw nk pa nc fo th tg nt tb te tk tt ex tc es wy ab re go be) sz)) (va_Qi (fun (r : Int32) (re9 : Nat → Int32) => r = lvI (RB nk nc fo th tg T nt up) th (tkf T nt up) nt nk nc) (fun re9 t => zWo (dC, dI) [(cI, .int), (cZ, .boolean), (cJ, .long)] (w4 b cI cZ 0 nk pa nc fo th tg nt tb te tk tt ex tc es wy ab re9 go be) (va_A (w4 b cI cZ tw nk pa nc fo th tg nt tb te tk tt ex tc es wy ab re go be) sz) t) (va_A (w4 b cI cZ tw nk pa nc fo th tg nt tb te tk tt ex tc es wy ab re go be) sz)) 0 0 (va_A (w4 b cI cZ tw nk pa nc fo th tg nt tb te tk tt ex tc es wy ab re go be) sz) := by
  refine Met.ofW (cc := cX4_leaving) (maxL := 4) (ret := (some .int)) (by decide) rfl ?_
  intro p e s m args below meth c s₁ B hml hv
  obtain ⟨hav, hsz, ⟨hP, hK, hn⟩, hD0⟩ := hv
  have hx := B.exec
  have hb := B.bytes
  have hr := B.returns
  have hts := atoms_spec (ws := wsX4_leaving) B.pre
  have hown : s.vm.findClass RX4 = some m.cls := findClass_of_methodNamed B.named
  have hlocks := B.notSynchronized
  subst hsz
  have hD := hD0.self (sz := s.heap.size)
  generalize hAe : (va_A (w4 b cI cZ tw nk pa nc fo th tg nt tb te tk tt ex tc es wy ab re go be) s.heap.size) = A at hD ⊢
  have hA : ∀ q : Nat, s.heap.size ≤ q → A q := fun q h => by rw [← hAe]; exact Or.inr h
  have hS : va_S A s.heap s.heap [] := va_S.rf
  generalize hQ : MQ below (va_Qi (fun (r : Int32) (re9 : Nat → Int32) => r = lvI (RB nk nc fo th tg T nt up) th (tkf T nt up) nt nk nc) (fun re9 t => zWo (dC, dI) [(cI, .int), (cZ, .boolean), (cJ, .long)] (w4 b cI cZ 0 nk pa nc fo th tg nt tb te tk tt ex tc es wy ab re9 go be) A t) A) args s 0 0 A = Q
  refine W.eq (g2 := entryFrame m ([.ref (b 0)] : List Value).toArray 4) (by rw [hav]) ?_
  have hl := lv_entry ([.ref (b 0)]) (n := 4) (Nat.le_of_ble_eq_true rfl)
  rw [lg_entry_eq]
  generalize (lg_sl ([.ref (b 0)]) ++ List.replicate (4 - (lg_sl ([.ref (b 0)])).length) Slot.unset).toArray = ls at hl ⊢
  have hl : lv_has ls 4 [(0, .ref (b 0))] := hl
  obtain ⟨H, hH⟩ : ∃ H, H = s.heap := ⟨_, rfl⟩
  obtain ⟨locs, hlo⟩ : ∃ q : List Loc, q = [] := ⟨_, rfl⟩
  have hP : va_P (dC, dI) vwCl (w4 b cI cZ tw nk pa nc fo th tg nt tb te tk tt ex tc es wy ab re go be) H := by rw [hH]; exact hP
  have hS : va_S A s.heap H locs := by rw [hH, hlo]; exact hS
  refine zz_hl hH hlo ?_
  obtain ⟨hk01, hk8, hnt, hT, hO, hF, hU⟩ := id hg
  obtain ⟨hnc, hC⟩ := id hc
  refine lv_aload_n hx hb dX4_leaving_0 rfl (lv_at hl 0 rfl) ?_
  refine lv_iconst (v := 0) hx hb dX4_leaving_1 (by decide) ?_
  refine va_put (D := (dC, dI)) (ci := 4) (v := .int 0) (ty := .int) (C := RX4) (T := TX4) (N := 20) hx hb hts (by decide +kernel) tyX4 tyX4_ok nmX4 hown hK hP hD hS 0 rfl rfl 0 (by decide) (hts (.fieldLink RX4 54 "HandlerOptimizerModel" "thrown" "I") (by decide +kernel)) (fun _ h9 => h9) rfl (by decide +kernel) rfl rfl (Nat.le_of_ble_eq_true rfl) dX4_leaving_2 (fun H locs hP hD hS => ?_)
  have hP : va_P (dC, dI) vwCl (w4 b cI cZ 0 nk pa nc fo th tg nt tb te tk tt ex tc es wy ab re go be) H := hP
  have hD : va_D A (w4 b cI cZ 0 nk pa nc fo th tg nt tb te tk tt ex tc es wy ab re go be) := hD
  refine lv_aload_n hx hb dX4_leaving_5 rfl (lv_at hl 0 rfl) ?_
  have hDc := hD
  have hFc := va_free (wc := w4 b cI cZ 0 nk pa nc fo th tg nt tb te tk tt ex tc es wy ab re go be) hD hS hA [0, 1, 2, 3, 4, 5, 6, 7, 8, 9, 10, 11, 12] rfl
  refine va_callv (va_runV (As := []) (rest := []) ⟨hx, hb, hml, hown, hts⟩ (c_X4_reach l dC dI cI cZ cJ b 0 nk pa nc fo th tg nt tb te tk tt ex tc es wy ab re go be T up H.size (by first | assumption | omega) (by first | assumption | omega)) (cwV 0 hts gX4_leaving_X4_reach rfl rfl rfl (by decide +kernel) ⟨Nat.le_of_ble_eq_true rfl, Nat.le_of_ble_eq_true rfl⟩) ⟨zWr_blind, va_recv hK hP (ci := 4) (q0 := 0) rfl rfl, zWr_at hP hK hn (hDc.weaken (fun _ _ _ _ => trivial))⟩ rfl rfl hl.1 rfl (lv_room (Nat.le_of_ble_eq_true rfl)) dX4_leaving_6 ⟨Nat.le_of_ble_eq_true rfl, Nat.le_of_ble_eq_true rfl⟩) hS (fun q _ h => hFc q h) hFc (fun u_9 t H1 locs ht hvm hw hB hz1 hk1 hS => ?_)
  obtain ⟨re_n, rfl⟩ : ∃ z, z = u_9 := ⟨_, rfl⟩
  obtain ⟨hP1, -, hD1⟩ := hB
  rw [ht] at hP1
  obtain ⟨hP, hD⟩ := va_join (wr := []) (w1 := w4 b cI cZ 0 nk pa nc fo th tg nt tb te tk tt ex tc es wy ab re_n go be) hP hD [0, 1, 2, 3, 4, 5, 6, 7, 8, 9, 10, 11, 12] [] rfl rfl (by decide) (by decide) hk1 hFc hP1 hD1
  generalize H1 = H at hP hS ⊢
  have hP : va_P (dC, dI) vwCl (w4 b cI cZ 0 nk pa nc fo th tg nt tb te tk tt ex tc es wy ab re_n go be) H := hP
  have hD : va_D A (w4 b cI cZ 0 nk pa nc fo th tg nt tb te tk tt ex tc es wy ab re_n go be) := hD
  have hre := hw
  refine lv_iconst (v := 0) hx hb dX4_leaving_9 (by decide) ?_
  refine lv_istore_n (lv' := [(1, .int 0), (0, .ref (b 0))]) hx hb dX4_leaving_10 rfl hl (by decide) rfl (fun ls hl => ?_)
  refine lv_iconst (v := 0) hx hb dX4_leaving_11 (by decide) ?_
  refine lv_istore_n (lv' := [(2, .int 0), (1, .int 0), (0, .ref (b 0))]) hx hb dX4_leaving_12 rfl hl (by decide) rfl (fun ls hl => ?_)
  have J_13 : ∀ (n9 : Nat) (y : Nat) (g : Int32) (H : Heap) (locs : List Loc) (ls : Array Slot), (y ≤ nc) → (g = it (fun i s => it (lvG (RB nk nc fo th tg T nt up) th (tkf T nt up) nt i) nk s) y 0) → nc - y < n9 → va_P (dC, dI) vwCl (w4 b cI cZ 0 nk pa nc fo th tg nt tb te tk tt ex tc es wy ab re_n go be) H → va_D A (w4 b cI cZ 0 nk pa nc fo th tg nt tb te tk tt ex tc es wy ab re_n go be) → va_S A s.heap H locs → lv_has ls 4 [(0, .ref (b 0)), (1, .int g), (2, .int (nI y))] → W p l e (headSpec wsX4_leaving ({ frames := 4, cells := 0, slots := 0, locals := 90 } : Room)).room s m args below meth c H locs 0 0 Q (F0 m 13 ls []) := by
    intro n9
    induction n9 with
    | zero => intro y g H locs ls hy hs9 hmu; exact absurd hmu (Nat.not_lt_zero _)
    | succ n9 ih_13 =>
      intro y g H locs ls hy hs9 hmu hP hD hS hl
      refine lv_iload_n hx hb dX4_leaving_13 rfl (lv_at hl 2 rfl) ?_
      refine lv_aload_n hx hb dX4_leaving_14 rfl (lv_at hl 0 rfl) ?_
      refine va_get (D := (dC, dI)) (ci := 4) (v := .int (nI nc)) (C := RX4) (T := TX4) (N := 20) hx hb hts (by decide +kernel) hown hK hP 0 rfl rfl 3 (by decide) (hts (.fieldLink RX4 61 "HandlerOptimizerModel" "size" "I") (by decide +kernel)) (fun _ h9 => h9) rfl dX4_leaving_15 ?_
      refine lv_icmp_ge (tgt := 81) hx hb dX4_leaving_18 (by decide) (fun c_3 => ?_) (fun c_3 => ?_)
      · skip
        have c_3 := (zz_get (a := y) (b := nc) (by omega) (by omega)).mp c_3
        refine lv_iload_n hx hb dX4_leaving_81 rfl (lv_at hl 1 rfl) ?_
        rw [← hQ]
        have hP9 := hP
        have hD9 := hD
        exact W.iret (v := g) hx hb hr (fun t ht hW => ⟨⟨g, re_n, rfl, (by rw [hs9, show y = nc from by omega]; rfl), (by rw [ht]; exact hP9), va_K.moved hW.alike hK, hD9⟩, hS.F ht⟩) hS.2.2 dX4_leaving_82
      · skip
        have c_3 := (zz_gef (a := y) (b := nc) (by omega) (by omega)).mp c_3
        refine lv_iconst (v := 0) hx hb dX4_leaving_21 (by decide) ?_
        refine lv_istore_n (lv' := [(3, .int 0), (0, .ref (b 0)), (1, .int g), (2, .int (nI y))]) hx hb dX4_leaving_22 rfl hl (by decide) rfl (fun ls hl => ?_)
        have J_23 : ∀ (n9 : Nat) (z : Nat) (g2 : Int32) (H : Heap) (locs : List Loc) (ls : Array Slot), (z ≤ nk) → (g2 = it (lvG (RB nk nc fo th tg T nt up) th (tkf T nt up) nt y) z (it (fun i s => it (lvG (RB nk nc fo th tg T nt up) th (tkf T nt up) nt i) nk s) y 0)) → nk - z < n9 → va_P (dC, dI) vwCl (w4 b cI cZ 0 nk pa nc fo th tg nt tb te tk tt ex tc es wy ab re_n go be) H → va_D A (w4 b cI cZ 0 nk pa nc fo th tg nt tb te tk tt ex tc es wy ab re_n go be) → va_S A s.heap H locs → lv_has ls 4 [(0, .ref (b 0)), (1, .int g2), (2, .int (nI y)), (3, .int (nI z))] → W p l e (headSpec wsX4_leaving ({ frames := 4, cells := 0, slots := 0, locals := 90 } : Room)).room s m args below meth c H locs 0 0 Q (F0 m 23 ls []) := by
          intro n9
          induction n9 with
          | zero => intro z g2 H locs ls hz hs8 hmu; exact absurd hmu (Nat.not_lt_zero _)
          | succ n9 ih_23 =>
            intro z g2 H locs ls hz hs8 hmu hP hD hS hl
            refine lv_iload_n hx hb dX4_leaving_23 rfl (lv_at hl 3 rfl) ?_
            refine lv_aload_n hx hb dX4_leaving_24 rfl (lv_at hl 0 rfl) ?_
            refine va_get (D := (dC, dI)) (ci := 4) (v := .int (nI nk)) (C := RX4) (T := TX4) (N := 20) hx hb hts (by decide +kernel) hown hK hP 0 rfl rfl 1 (by decide) (hts (.fieldLink RX4 7 "HandlerOptimizerModel" "kinds" "I") (by decide +kernel)) (fun _ h9 => h9) rfl dX4_leaving_25 ?_
            refine lv_icmp_ge (tgt := 75) hx hb dX4_leaving_28 (by decide) (fun c_4 => ?_) (fun c_4 => ?_)
            · skip
              have c1 := (zz_get (a := z) (b := nk) (by omega) (by omega)).mp c_4
              refine lv_iinc (v := nI (y + 1)) (lv' := [(2, .int (nI (y + 1))), (0, .ref (b 0)), (1, .int g2), (3, .int (nI z))]) hx hb dX4_leaving_75 hl (k := 2) rfl (zz_inc y 1) (by decide) rfl (fun ls hl => ?_)
              refine lv_goto (tgt := 13) hx hb dX4_leaving_78 (by decide) ?_
              exact ih_13 (y + 1) g2 _ _ _ (by first | assumption | omega) (by first | (rw [hs8, show z = nk from by omega]; rfl) | (rw [hs7, k1]; show _ = it (lvG (RB nk nc fo th tg T nt up) th (tkf T nt up) nt y) nk (it (fun i s => it (lvG (RB nk nc fo th tg T nt up) th (tkf T nt up) nt i) nk s) y 0); rw [k1])) (by omega) hP hD hS (lv_sub hl [1, 2, 0] rfl)
            · skip
              have c_4 := (zz_gef (a := z) (b := nk) (by omega) (by omega)).mp c_4
              refine lv_aload_n hx hb dX4_leaving_31 rfl (lv_at hl 0 rfl) ?_
              refine va_get (D := (dC, dI)) (ci := 4) (v := .ref (b 10)) (C := RX4) (T := TX4) (N := 20) hx hb hts (by decide +kernel) hown hK hP 0 rfl rfl 17 (by decide) (hts (.fieldLink RX4 44 "HandlerOptimizerModel" "areReached" "[Z") (by decide +kernel)) (fun _ h9 => h9) rfl dX4_leaving_32 ?_
              refine lv_iload_n hx hb dX4_leaving_35 rfl (lv_at hl 2 rfl) ?_
              refine va_zald hx hb hK hP 10 1 rfl rfl (vp_in_nI (n := y) (by omega) (by decide)) dX4_leaving_36 ?_
              refine zz_top (y := re_n y) (congrArg _ (nI_clamp (by omega))) ?_
              refine zz_top (y := bI (RB nk nc fo th tg T nt up y)) (hre y (by omega)) ?_
              refine lv_if_eq (tgt := 75) hx hb dX4_leaving_37 (by decide) (fun c_5 => ?_) (fun c_5 => ?_)
              · skip
                have c9 := zb_0.mp c_5
                have hs7 := hs8
                have k1 : ∀ n s, it (lvG (RB nk nc fo th tg T nt up) th (tkf T nt up) nt y) n s = s := fun n s => it_id (fun k x _ => by simp [lvG, c9])
                refine lv_iinc (v := nI (y + 1)) (lv' := [(2, .int (nI (y + 1))), (0, .ref (b 0)), (1, .int g2), (3, .int (nI z))]) hx hb dX4_leaving_75 hl (k := 2) rfl (zz_inc y 1) (by decide) rfl (fun ls hl => ?_)
                refine lv_goto (tgt := 13) hx hb dX4_leaving_78 (by decide) ?_
                exact ih_13 (y + 1) g2 _ _ _ (by first | assumption | omega) (by first | (rw [hs8, show z = nk from by omega]; rfl) | (rw [hs7, k1]; show _ = it (lvG (RB nk nc fo th tg T nt up) th (tkf T nt up) nt y) nk (it (fun i s => it (lvG (RB nk nc fo th tg T nt up) th (tkf T nt up) nt i) nk s) y 0); rw [k1])) (by omega) hP hD hS (lv_sub hl [1, 2, 0] rfl)
              · skip
                have c9 := zb_1.mp c_5
                refine lv_aload_n hx hb dX4_leaving_40 rfl (lv_at hl 0 rfl) ?_
                refine va_get (D := (dC, dI)) (ci := 4) (v := .ref (b 3)) (C := RX4) (T := TX4) (N := 20) hx hb hts (by decide +kernel) hown hK hP 0 rfl rfl 5 (by decide) (hts (.fieldLink RX4 20 "HandlerOptimizerModel" "errors" "[I") (by decide +kernel)) (fun _ h9 => h9) rfl dX4_leaving_41 ?_
                refine lv_iload_n hx hb dX4_leaving_44 rfl (lv_at hl 2 rfl) ?_
                refine va_iald hx hb hK hP 3 0 rfl rfl (vp_in_nI (n := y) (by omega) (by decide)) dX4_leaving_45 ?_
                refine zz_top (y := th y) (congrArg _ (nI_clamp (by omega))) ?_
                refine lv_iload_n hx hb dX4_leaving_46 rfl (lv_at hl 3 rfl) ?_
                have hPc : va_P (dC, dI) vwCl [] H := fun k q h => by simp at h
                refine va_calli (va_runS (As := [.int (th y), .int (nI z)]) (rest := []) ⟨hx, hb, hml, hown, hts⟩ (c_X4_has l dC dI cI cZ cJ (th y) z (by omega)) (va_cwS 2 hts gX4_leaving_X4_has rfl rfl rfl (by decide +kernel) ⟨Nat.le_of_ble_eq_true rfl, Nat.le_of_ble_eq_true rfl⟩) ⟨zPre_blind, zPre_at hPc hK hn⟩ rfl rfl hl.1 rfl (lv_room (Nat.le_of_ble_eq_true rfl)) dX4_leaving_47 ⟨Nat.le_of_ble_eq_true rfl, Nat.le_of_ble_eq_true rfl⟩) hS (fun _ _ h => h.elim) (fun _ h => h.elim) (fun r_6 u_9 t H locs ht hvm hw hB hz1 hk1 hS => ?_)
                have hP := zkeep hP hk1
                subst hw
                refine lv_if_eq (tgt := 69) hx hb dX4_leaving_50 (by decide) (fun c_7 => ?_) (fun c_7 => ?_)
                · skip
                  have c8 := zb_0.mp c_7
                  refine lv_iinc (v := nI (z + 1)) (lv' := [(3, .int (nI (z + 1))), (0, .ref (b 0)), (1, .int g2), (2, .int (nI y))]) hx hb dX4_leaving_69 hl (k := 3) rfl (zz_inc z 1) (by decide) rfl (fun ls hl => ?_)
                  refine lv_goto (tgt := 23) hx hb dX4_leaving_72 (by decide) ?_
                  exact ih_23 (z + 1) g2 _ _ _ (by first | assumption | omega) (by rw [hs8]; simp only [it, lvG]; simp [*]) (by omega) hP hD hS (lv_sub hl [1, 2, 3, 0] rfl)
                · skip
                  have c8 := zb_1.mp c_7
                  refine lv_aload_n hx hb dX4_leaving_53 rfl (lv_at hl 0 rfl) ?_
                  refine lv_iload_n hx hb dX4_leaving_54 rfl (lv_at hl 2 rfl) ?_
                  refine lv_iload_n hx hb dX4_leaving_55 rfl (lv_at hl 3 rfl) ?_
                  refine va_calli (va_runV (As := [.int (nI y), .int (nI z)]) (rest := []) ⟨hx, hb, hml, hown, hts⟩ (c_X4_takerOf l dC dI cI cZ cJ b 0 nk pa nc fo th tg nt tb te tk tt ex tc es wy ab re_n go be y z T up (by first | assumption | omega) (by first | assumption | omega) (by omega) (by omega)) (cwV 2 hts gX4_leaving_X4_takerOf rfl rfl rfl (by decide +kernel) ⟨Nat.le_of_ble_eq_true rfl, Nat.le_of_ble_eq_true rfl⟩) ⟨zPre_blind, va_recv hK hP (ci := 4) (q0 := 0) rfl rfl, zPre_at hP hK hn⟩ rfl rfl hl.1 rfl (lv_room (Nat.le_of_ble_eq_true rfl)) dX4_leaving_56 ⟨Nat.le_of_ble_eq_true rfl, Nat.le_of_ble_eq_true rfl⟩) hS (fun _ _ h => h.elim) (fun _ h => h.elim) (fun r_8 u_9 t H locs ht hvm hw hB hz1 hk1 hS => ?_)
                  have hP := zkeep hP hk1
                  subst hw
                  refine lv_iconst (v := -1) hx hb dX4_leaving_59 (by decide) ?_
                  refine lv_icmp_ne (tgt := 69) hx hb dX4_leaving_60 (by decide) (fun c_9 => ?_) (fun c_9 => ?_)
                  · skip
                    have c7 := tkI_lt (by omega) c_9
                    refine lv_iinc (v := nI (z + 1)) (lv' := [(3, .int (nI (z + 1))), (0, .ref (b 0)), (1, .int g2), (2, .int (nI y))]) hx hb dX4_leaving_69 hl (k := 3) rfl (zz_inc z 1) (by decide) rfl (fun ls hl => ?_)
                    refine lv_goto (tgt := 23) hx hb dX4_leaving_72 (by decide) ?_
                    exact ih_23 (z + 1) g2 _ _ _ (by first | assumption | omega) (by rw [hs8]; simp only [it, lvG]; simp [*]) (by omega) hP hD hS (lv_sub hl [1, 2, 3, 0] rfl)
                  · skip
                    have c7 := tkI_m1 (by omega) c_9
                    refine lv_iload_n hx hb dX4_leaving_63 rfl (lv_at hl 1 rfl) ?_
                    refine lv_iconst (v := 1) hx hb dX4_leaving_64 (by decide) ?_
                    refine lv_iload_n hx hb dX4_leaving_65 rfl (lv_at hl 3 rfl) ?_
                    refine lv_ishl hx hb dX4_leaving_66 ?_
                    refine lv_ior hx hb dX4_leaving_67 ?_
                    refine lv_istore_n (lv' := [(1, .int (g2 ||| (1 <<< ((nI z) &&& 31)))), (0, .ref (b 0)), (2, .int (nI y)), (3, .int (nI z))]) hx hb dX4_leaving_68 rfl hl (by decide) rfl (fun ls hl => ?_)
                    refine lv_iinc (v := nI (z + 1)) (lv' := [(3, .int (nI (z + 1))), (1, .int (g2 ||| (1 <<< ((nI z) &&& 31)))), (0, .ref (b 0)), (2, .int (nI y))]) hx hb dX4_leaving_69 hl (k := 3) rfl (zz_inc z 1) (by decide) rfl (fun ls hl => ?_)
                    refine lv_goto (tgt := 23) hx hb dX4_leaving_72 (by decide) ?_
                    exact ih_23 (z + 1) (g2 ||| (1 <<< ((nI z) &&& 31))) _ _ _ (by first | assumption | omega) (by rw [hs8]; simp only [it, lvG]; simp [*]) (by omega) hP hD hS (lv_sub hl [2, 1, 3, 0] rfl)
        exact J_23 _ 0 g _ _ _ (by first | assumption | omega) hs9 (Nat.lt_succ_self _) hP hD hS (lv_sub hl [1, 2, 3, 0] rfl)
  exact J_13 _ 0 0 _ _ _ (by first | assumption | omega) rfl (Nat.lt_succ_self _) hP hD hS (lv_sub hl [2, 1, 0] rfl)

set_option maxHeartbeats 4000000 in
set_option maxRecDepth 100000 in
theorem c_X4_parts (l : Launch) (dC : Nat → ClassId) (dI : Nat → Nat → Nat) (cI cZ cJ : ClassId) (b : Nat → Nat) (tw : Int32) (nk : Nat) (pa : Nat → Int32) (nc : Nat) (fo : Nat → Int32) (th : Nat → Int32) (tg : Nat → Int32) (nt : Nat) (tb : Nat → Int32) (te : Nat → Int32) (tk : Nat → Int32) (tt : Nat → Int32) (ex : Int32) (tc : Int32) (es : Int32) (wy : Int64) (ab : Nat → Int32) (re : Nat → Int32) (go : Nat → Int32) (be : Nat → Int32) (T : Nat → Nat → Nat) (up : Nat → Nat → Bool) (sz : Nat) (hg : g4 nk ab up nt tb te tk tt T) (hc : okC nk nc fo th tg) : Met l yX4_parts wsX4_parts ({ frames := 3, cells := 0, slots := 0, locals := 67 } : Room) (va_Pc [.ref (b 0)] (zWr (dC, dI) [(cI, .int), (cZ, .boolean), (cJ, .long)] (w4 b cI cZ tw nk pa nc fo th tg nt tb te tk tt ex tc es wy ab re go be) sz)) (va_Qi (fun (r : Int32) (_ : Unit) => r = nI (ptN (gl T nt up) nk nc)) (fun _ t => zWo (dC, dI) [(cI, .int), (cZ, .boolean), (cJ, .long)] (w4 b cI cZ 0 nk pa nc fo th tg nt tb te tk tt ex tc es wy ab re go be) (va_A (w4 b cI cZ tw nk pa nc fo th tg nt tb te tk tt ex tc es wy ab re go be) sz) t) (va_A (w4 b cI cZ tw nk pa nc fo th tg nt tb te tk tt ex tc es wy ab re go be) sz)) 0 0 (va_A (w4 b cI cZ tw nk pa nc fo th tg nt tb te tk tt ex tc es wy ab re go be) sz) := by
  refine Met.ofW (cc := cX4_parts) (maxL := 5) (ret := (some .int)) (by decide) rfl ?_
  intro p e s m args below meth c s₁ B hml hv
  obtain ⟨hav, hsz, ⟨hP, hK, hn⟩, hD0⟩ := hv
  have hx := B.exec
  have hb := B.bytes
  have hr := B.returns
  have hts := atoms_spec (ws := wsX4_parts) B.pre
  have hown : s.vm.findClass RX4 = some m.cls := findClass_of_methodNamed B.named
  have hlocks := B.notSynchronized
  subst hsz
  have hD := hD0.self (sz := s.heap.size)
  generalize hAe : (va_A (w4 b cI cZ tw nk pa nc fo th tg nt tb te tk tt ex tc es wy ab re go be) s.heap.size) = A at hD ⊢
  have hA : ∀ q : Nat, s.heap.size ≤ q → A q := fun q h => by rw [← hAe]; exact Or.inr h
  have hS : va_S A s.heap s.heap [] := va_S.rf
  generalize hQ : MQ below (va_Qi (fun (r : Int32) (_ : Unit) => r = nI (ptN (gl T nt up) nk nc)) (fun _ t => zWo (dC, dI) [(cI, .int), (cZ, .boolean), (cJ, .long)] (w4 b cI cZ 0 nk pa nc fo th tg nt tb te tk tt ex tc es wy ab re go be) A t) A) args s 0 0 A = Q
  refine W.eq (g2 := entryFrame m ([.ref (b 0)] : List Value).toArray 5) (by rw [hav]) ?_
  have hl := lv_entry ([.ref (b 0)]) (n := 5) (Nat.le_of_ble_eq_true rfl)
  rw [lg_entry_eq]
  generalize (lg_sl ([.ref (b 0)]) ++ List.replicate (5 - (lg_sl ([.ref (b 0)])).length) Slot.unset).toArray = ls at hl ⊢
  have hl : lv_has ls 5 [(0, .ref (b 0))] := hl
  obtain ⟨H, hH⟩ : ∃ H, H = s.heap := ⟨_, rfl⟩
  obtain ⟨locs, hlo⟩ : ∃ q : List Loc, q = [] := ⟨_, rfl⟩
  have hP : va_P (dC, dI) vwCl (w4 b cI cZ tw nk pa nc fo th tg nt tb te tk tt ex tc es wy ab re go be) H := by rw [hH]; exact hP
  have hS : va_S A s.heap H locs := by rw [hH, hlo]; exact hS
  refine zz_hl hH hlo ?_
  obtain ⟨hk01, hk8, hnt, hT, hO, hF, hU⟩ := id hg
  obtain ⟨hnc, hC⟩ := id hc
  refine lv_aload_n hx hb dX4_parts_0 rfl (lv_at hl 0 rfl) ?_
  refine lv_iconst (v := 0) hx hb dX4_parts_1 (by decide) ?_
  refine va_put (D := (dC, dI)) (ci := 4) (v := .int 0) (ty := .int) (C := RX4) (T := TX4) (N := 20) hx hb hts (by decide +kernel) tyX4 tyX4_ok nmX4 hown hK hP hD hS 0 rfl rfl 0 (by decide) (hts (.fieldLink RX4 54 "HandlerOptimizerModel" "thrown" "I") (by decide +kernel)) (fun _ h9 => h9) rfl (by decide +kernel) rfl rfl (Nat.le_of_ble_eq_true rfl) dX4_parts_2 (fun H locs hP hD hS => ?_)
  have hP : va_P (dC, dI) vwCl (w4 b cI cZ 0 nk pa nc fo th tg nt tb te tk tt ex tc es wy ab re go be) H := hP
  have hD : va_D A (w4 b cI cZ 0 nk pa nc fo th tg nt tb te tk tt ex tc es wy ab re go be) := hD
  refine lv_aload_n hx hb dX4_parts_5 rfl (lv_at hl 0 rfl) ?_
  refine va_get (D := (dC, dI)) (ci := 4) (v := .int (nI nc)) (C := RX4) (T := TX4) (N := 20) hx hb hts (by decide +kernel) hown hK hP 0 rfl rfl 3 (by decide) (hts (.fieldLink RX4 61 "HandlerOptimizerModel" "size" "I") (by decide +kernel)) (fun _ h9 => h9) rfl dX4_parts_6 ?_
  refine lv_if_ne (tgt := 16) hx hb dX4_parts_9 (by decide) (fun c_1 => ?_) (fun c_1 => ?_)
  · skip
    have c1 := (zz_net (a := nc) (b := 0) (by omega) (by omega)).mp c_1
    have e1 : (1 : Int32) = nI (it (ptG (gl T nt up) nk) (min 1 nc) 0) := by rw [show min 1 nc = 1 from by omega]; simp [it, ptG]; rfl
    refine lv_iconst (v := 1) hx hb dX4_parts_16 (by decide) ?_
    refine zz_top (y := nI (it (ptG (gl T nt up) nk) (min 1 nc) 0)) e1 ?_
    refine lv_istore_n (lv' := [(1, .int (nI (it (ptG (gl T nt up) nk) (min 1 nc) 0))), (0, .ref (b 0))]) hx hb dX4_parts_17 rfl hl (by decide) rfl (fun ls hl => ?_)
    refine lv_iconst (v := 1) hx hb dX4_parts_18 (by decide) ?_
    refine lv_istore_n (lv' := [(2, .int 1), (1, .int (nI (it (ptG (gl T nt up) nk) (min 1 nc) 0))), (0, .ref (b 0))]) hx hb dX4_parts_19 rfl hl (by decide) rfl (fun ls hl => ?_)
    have J_20 : ∀ (n9 : Nat) (y : Nat) (H : Heap) (locs : List Loc) (ls : Array Slot), (1 ≤ y) → (y ≤ nc + 1) → (1 ≤ nc → y ≤ nc) → nc + 1 - y < n9 → va_P (dC, dI) vwCl (w4 b cI cZ 0 nk pa nc fo th tg nt tb te tk tt ex tc es wy ab re go be) H → va_D A (w4 b cI cZ 0 nk pa nc fo th tg nt tb te tk tt ex tc es wy ab re go be) → va_S A s.heap H locs → lv_has ls 5 [(0, .ref (b 0)), (1, .int (nI (it (ptG (gl T nt up) nk) (min y nc) 0))), (2, .int (nI y))] → W p l e (headSpec wsX4_parts ({ frames := 3, cells := 0, slots := 0, locals := 67 } : Room)).room s m args below meth c H locs 0 0 Q (F0 m 20 ls []) := by
      intro n9
      induction n9 with
      | zero => intro y H locs ls hy hy2 hy3 hmu; exact absurd hmu (Nat.not_lt_zero _)
      | succ n9 ih_20 =>
        intro y H locs ls hy hy2 hy3 hmu hP hD hS hl
        refine lv_iload_n hx hb dX4_parts_20 rfl (lv_at hl 2 rfl) ?_
        refine lv_aload_n hx hb dX4_parts_21 rfl (lv_at hl 0 rfl) ?_
        refine va_get (D := (dC, dI)) (ci := 4) (v := .int (nI nc)) (C := RX4) (T := TX4) (N := 20) hx hb hts (by decide +kernel) hown hK hP 0 rfl rfl 3 (by decide) (hts (.fieldLink RX4 61 "HandlerOptimizerModel" "size" "I") (by decide +kernel)) (fun _ h9 => h9) rfl dX4_parts_22 ?_
        refine lv_icmp_ge (tgt := 95) hx hb dX4_parts_25 (by decide) (fun c_2 => ?_) (fun c_2 => ?_)
        · skip
          have c2 := (zz_get (a := y) (b := nc) (by omega) (by omega)).mp c_2
          refine lv_iload_n hx hb dX4_parts_95 rfl (lv_at hl 1 rfl) ?_
          rw [← hQ]
          have hP9 := hP
          have hD9 := hD
          exact W.iret (v := nI (it (ptG (gl T nt up) nk) (min y nc) 0)) hx hb hr (fun t ht hW => ⟨⟨nI (it (ptG (gl T nt up) nk) (min y nc) 0), (), rfl, (by rw [show min y nc = nc from by omega]; rfl), (by rw [ht]; exact hP9), va_K.moved hW.alike hK, hD9⟩, hS.F ht⟩) hS.2.2 dX4_parts_96
        · skip
          have c2 := (zz_gef (a := y) (b := nc) (by omega) (by omega)).mp c_2
          refine lv_iconst (v := 1) hx hb dX4_parts_28 (by decide) ?_
          refine lv_istore_n (lv' := [(3, .int 1), (0, .ref (b 0)), (1, .int (nI (it (ptG (gl T nt up) nk) (min y nc) 0))), (2, .int (nI y))]) hx hb dX4_parts_29 rfl hl (by decide) rfl (fun ls hl => ?_)
          refine lv_iconst (v := 0) hx hb dX4_parts_30 (by decide) ?_
          refine lv_istore (lv' := [(4, .int 0), (3, .int 1), (0, .ref (b 0)), (1, .int (nI (it (ptG (gl T nt up) nk) (min y nc) 0))), (2, .int (nI y))]) hx hb dX4_parts_31 hl (by decide) rfl (fun ls hl => ?_)
          have J_33 : ∀ (n9 : Nat) (z : Nat) (ib : Bool) (H : Heap) (locs : List Loc) (ls : Array Slot), (z ≤ nk) → (ib = al (fun k => decide (gl T nt up y k = gl T nt up (y - 1) k)) z) → nk - z < n9 → va_P (dC, dI) vwCl (w4 b cI cZ 0 nk pa nc fo th tg nt tb te tk tt ex tc es wy ab re go be) H → va_D A (w4 b cI cZ 0 nk pa nc fo th tg nt tb te tk tt ex tc es wy ab re go be) → va_S A s.heap H locs → lv_has ls 5 [(0, .ref (b 0)), (1, .int (nI (it (ptG (gl T nt up) nk) (min y nc) 0))), (2, .int (nI y)), (3, .int (bI ib)), (4, .int (nI z))] → W p l e (headSpec wsX4_parts ({ frames := 3, cells := 0, slots := 0, locals := 67 } : Room)).room s m args below meth c H locs 0 0 Q (F0 m 33 ls []) := by
            intro n9
            induction n9 with
            | zero => intro z ib H locs ls hz hib hmu; exact absurd hmu (Nat.not_lt_zero _)
            | succ n9 ih_33 =>
              intro z ib H locs ls hz hib hmu hP hD hS hl
              refine lv_iload hx hb dX4_parts_33 (lv_at hl 4 rfl) ?_
              refine lv_aload_n hx hb dX4_parts_35 rfl (lv_at hl 0 rfl) ?_
              refine va_get (D := (dC, dI)) (ci := 4) (v := .int (nI nk)) (C := RX4) (T := TX4) (N := 20) hx hb hts (by decide +kernel) hown hK hP 0 rfl rfl 1 (by decide) (hts (.fieldLink RX4 7 "HandlerOptimizerModel" "kinds" "I") (by decide +kernel)) (fun _ h9 => h9) rfl dX4_parts_36 ?_
              refine lv_icmp_ge (tgt := 77) hx hb dX4_parts_39 (by decide) (fun c_3 => ?_) (fun c_3 => ?_)
              · skip
                have c7 := (zz_get (a := z) (b := nk) (by omega) (by omega)).mp c_3
                have hib9 : smK (gl T nt up) nk y = ib := by rw [hib, show z = nk from by omega]; rfl
                refine lv_iload_n hx hb dX4_parts_77 rfl (lv_at hl 1 rfl) ?_
                refine lv_iload_n hx hb dX4_parts_78 rfl (lv_at hl 3 rfl) ?_
                refine lv_if_eq (tgt := 86) hx hb dX4_parts_79 (by decide) (fun c_4 => ?_) (fun c_4 => ?_)
                · skip
                  have c6 := zb_0.mp c_4
                  have e9 : it (ptG (gl T nt up) nk) (min (y + 1) nc) 0 = it (ptG (gl T nt up) nk) (min y nc) 0 + 1 := by rw [show min (y + 1) nc = y + 1 from by omega, show min y nc = y from by omega]; simp only [it, ptG]; rw [hib9, c6]; simp
                  refine lv_iconst (v := 1) hx hb dX4_parts_86 (by decide) ?_
                  refine lv_iadd hx hb dX4_parts_87 ?_
                  refine zz_top (y := nI ((it (ptG (gl T nt up) nk) (min y nc) 0) + 1)) (nI_add _ _) ?_
                  refine zz_top (y := nI (it (ptG (gl T nt up) nk) (min (y + 1) nc) 0)) (by first | (rw [e9]; done) | (rw [e9]; rfl)) ?_
                  refine lv_istore_n (lv' := [(1, .int (nI (it (ptG (gl T nt up) nk) (min (y + 1) nc) 0))), (0, .ref (b 0)), (2, .int (nI y)), (3, .int (bI ib)), (4, .int (nI z))]) hx hb dX4_parts_88 rfl hl (by decide) rfl (fun ls hl => ?_)
                  refine lv_iinc (v := nI (y + 1)) (lv' := [(2, .int (nI (y + 1))), (1, .int (nI (it (ptG (gl T nt up) nk) (min (y + 1) nc) 0))), (0, .ref (b 0)), (3, .int (bI ib)), (4, .int (nI z))]) hx hb dX4_parts_89 hl (k := 2) rfl (zz_inc y 1) (by decide) rfl (fun ls hl => ?_)
                  refine lv_goto (tgt := 20) hx hb dX4_parts_92 (by decide) ?_
                  exact ih_20 (y + 1) _ _ _ (by first | assumption | omega) (by first | assumption | omega) (by first | assumption | omega) (by omega) hP hD hS (lv_sub hl [2, 1, 0] rfl)
                · skip
                  have c6 := zb_1.mp c_4
                  have e9 : it (ptG (gl T nt up) nk) (min (y + 1) nc) 0 = it (ptG (gl T nt up) nk) (min y nc) 0 := by rw [show min (y + 1) nc = y + 1 from by omega, show min y nc = y from by omega]; simp only [it, ptG]; rw [hib9, c6, decide_eq_false (show ¬ y = 0 by omega)]; rfl
                  refine lv_iconst (v := 0) hx hb dX4_parts_82 (by decide) ?_
                  refine lv_goto (tgt := 87) hx hb dX4_parts_83 (by decide) ?_
                  refine lv_iadd hx hb dX4_parts_87 ?_
                  refine zz_top (y := nI ((it (ptG (gl T nt up) nk) (min y nc) 0) + 0)) (nI_add _ _) ?_
                  refine zz_top (y := nI (it (ptG (gl T nt up) nk) (min (y + 1) nc) 0)) (by first | (rw [e9]; done) | (rw [e9]; rfl)) ?_
                  refine lv_istore_n (lv' := [(1, .int (nI (it (ptG (gl T nt up) nk) (min (y + 1) nc) 0))), (0, .ref (b 0)), (2, .int (nI y)), (3, .int (bI ib)), (4, .int (nI z))]) hx hb dX4_parts_88 rfl hl (by decide) rfl (fun ls hl => ?_)
                  refine lv_iinc (v := nI (y + 1)) (lv' := [(2, .int (nI (y + 1))), (1, .int (nI (it (ptG (gl T nt up) nk) (min (y + 1) nc) 0))), (0, .ref (b 0)), (3, .int (bI ib)), (4, .int (nI z))]) hx hb dX4_parts_89 hl (k := 2) rfl (zz_inc y 1) (by decide) rfl (fun ls hl => ?_)
                  refine lv_goto (tgt := 20) hx hb dX4_parts_92 (by decide) ?_
                  exact ih_20 (y + 1) _ _ _ (by first | assumption | omega) (by first | assumption | omega) (by first | assumption | omega) (by omega) hP hD hS (lv_sub hl [2, 1, 0] rfl)
              · skip
                have c_3 := (zz_gef (a := z) (b := nk) (by omega) (by omega)).mp c_3
                refine lv_iload_n hx hb dX4_parts_42 rfl (lv_at hl 3 rfl) ?_
                refine lv_if_eq (tgt := 69) hx hb dX4_parts_43 (by decide) (fun c_5 => ?_) (fun c_5 => ?_)
                · skip
                  have c9 := zb_0.mp c_5
                  refine lv_iconst (v := 0) hx hb dX4_parts_69 (by decide) ?_
                  refine lv_istore_n (lv' := [(3, .int 0), (0, .ref (b 0)), (1, .int (nI (it (ptG (gl T nt up) nk) (min y nc) 0))), (2, .int (nI y)), (4, .int (nI z))]) hx hb dX4_parts_70 rfl hl (by decide) rfl (fun ls hl => ?_)
                  refine lv_iinc (v := nI (z + 1)) (lv' := [(4, .int (nI (z + 1))), (3, .int 0), (0, .ref (b 0)), (1, .int (nI (it (ptG (gl T nt up) nk) (min y nc) 0))), (2, .int (nI y))]) hx hb dX4_parts_71 hl (k := 4) rfl (zz_inc z 1) (by decide) rfl (fun ls hl => ?_)
                  refine lv_goto (tgt := 33) hx hb dX4_parts_74 (by decide) ?_
                  exact ih_33 (z + 1) false _ _ _ (by first | assumption | omega) (by rw [al_and, ← hib]; show _ = (ib && decide (gl T nt up y z = gl T nt up (y - 1) z)); first | (rw [c9]; rfl) | (rw [c9, decide_eq_true c8]; rfl) | (rw [c9, decide_eq_false c8]; rfl)) (by omega) hP hD hS (lv_sub hl [2, 3, 4, 1, 0] rfl)
                · skip
                  have c9 := zb_1.mp c_5
                  refine lv_aload_n hx hb dX4_parts_46 rfl (lv_at hl 0 rfl) ?_
                  refine lv_iload_n hx hb dX4_parts_47 rfl (lv_at hl 2 rfl) ?_
                  refine lv_iconst (v := 1) hx hb dX4_parts_48 (by decide) ?_
                  refine lv_isub hx hb dX4_parts_49 ?_
                  refine zz_top (y := nI (y - 1)) (zz_pred (by omega)) ?_
                  refine lv_iload hx hb dX4_parts_50 (lv_at hl 4 rfl) ?_
                  refine va_calli (va_runV (As := [.int (nI (y - 1)), .int (nI z)]) (rest := []) ⟨hx, hb, hml, hown, hts⟩ (c_X4_goal l dC dI cI cZ cJ b 0 nk pa nc fo th tg nt tb te tk tt ex tc es wy ab re go be (y - 1) z T up (by first | assumption | omega) (by first | assumption | omega) (by omega) (by omega)) (cwV 2 hts gX4_parts_X4_goal rfl rfl rfl (by decide +kernel) ⟨Nat.le_of_ble_eq_true rfl, Nat.le_of_ble_eq_true rfl⟩) ⟨zPre_blind, va_recv hK hP (ci := 4) (q0 := 0) rfl rfl, zPre_at hP hK hn⟩ rfl rfl hl.1 rfl (lv_room (Nat.le_of_ble_eq_true rfl)) dX4_parts_52 ⟨Nat.le_of_ble_eq_true rfl, Nat.le_of_ble_eq_true rfl⟩) hS (fun _ _ h => h.elim) (fun _ h => h.elim) (fun r_6 u_9 t H locs ht hvm hw hB hz1 hk1 hS => ?_)
                  have hP := zkeep hP hk1
                  subst hw
                  refine lv_aload_n hx hb dX4_parts_55 rfl (lv_at hl 0 rfl) ?_
                  refine lv_iload_n hx hb dX4_parts_56 rfl (lv_at hl 2 rfl) ?_
                  refine lv_iload hx hb dX4_parts_57 (lv_at hl 4 rfl) ?_
                  refine va_calli (va_runV (As := [.int (nI y), .int (nI z)]) (rest := [.int (gl T nt up (y - 1) z)]) ⟨hx, hb, hml, hown, hts⟩ (c_X4_goal l dC dI cI cZ cJ b 0 nk pa nc fo th tg nt tb te tk tt ex tc es wy ab re go be y z T up (by first | assumption | omega) (by first | assumption | omega) (by omega) (by omega)) (cwV 2 hts gX4_parts_X4_goal rfl rfl rfl (by decide +kernel) ⟨Nat.le_of_ble_eq_true rfl, Nat.le_of_ble_eq_true rfl⟩) ⟨zPre_blind, va_recv hK hP (ci := 4) (q0 := 0) rfl rfl, zPre_at hP hK hn⟩ rfl rfl hl.1 rfl (lv_room (Nat.le_of_ble_eq_true rfl)) dX4_parts_59 ⟨Nat.le_of_ble_eq_true rfl, Nat.le_of_ble_eq_true rfl⟩) hS (fun _ _ h => h.elim) (fun _ h => h.elim) (fun r_7 u_9 t H locs ht hvm hw hB hz1 hk1 hS => ?_)
                  have hP := zkeep hP hk1
                  subst hw
                  refine lv_icmp_ne (tgt := 69) hx hb dX4_parts_62 (by decide) (fun c_8 => ?_) (fun c_8 => ?_)
                  · skip
                    have c8 : ¬ gl T nt up y z = gl T nt up (y - 1) z := fun q => c_8 q.symm
                    refine lv_iconst (v := 0) hx hb dX4_parts_69 (by decide) ?_
                    refine lv_istore_n (lv' := [(3, .int 0), (0, .ref (b 0)), (1, .int (nI (it (ptG (gl T nt up) nk) (min y nc) 0))), (2, .int (nI y)), (4, .int (nI z))]) hx hb dX4_parts_70 rfl hl (by decide) rfl (fun ls hl => ?_)
                    refine lv_iinc (v := nI (z + 1)) (lv' := [(4, .int (nI (z + 1))), (3, .int 0), (0, .ref (b 0)), (1, .int (nI (it (ptG (gl T nt up) nk) (min y nc) 0))), (2, .int (nI y))]) hx hb dX4_parts_71 hl (k := 4) rfl (zz_inc z 1) (by decide) rfl (fun ls hl => ?_)
                    refine lv_goto (tgt := 33) hx hb dX4_parts_74 (by decide) ?_
                    exact ih_33 (z + 1) false _ _ _ (by first | assumption | omega) (by rw [al_and, ← hib]; show _ = (ib && decide (gl T nt up y z = gl T nt up (y - 1) z)); first | (rw [c9]; rfl) | (rw [c9, decide_eq_true c8]; rfl) | (rw [c9, decide_eq_false c8]; rfl)) (by omega) hP hD hS (lv_sub hl [2, 3, 4, 1, 0] rfl)
                  · skip
                    have c8 : gl T nt up y z = gl T nt up (y - 1) z := (c_8).symm
                    refine lv_iconst (v := 1) hx hb dX4_parts_65 (by decide) ?_
                    refine lv_goto (tgt := 70) hx hb dX4_parts_66 (by decide) ?_
                    refine lv_istore_n (lv' := [(3, .int 1), (0, .ref (b 0)), (1, .int (nI (it (ptG (gl T nt up) nk) (min y nc) 0))), (2, .int (nI y)), (4, .int (nI z))]) hx hb dX4_parts_70 rfl hl (by decide) rfl (fun ls hl => ?_)
                    refine lv_iinc (v := nI (z + 1)) (lv' := [(4, .int (nI (z + 1))), (3, .int 1), (0, .ref (b 0)), (1, .int (nI (it (ptG (gl T nt up) nk) (min y nc) 0))), (2, .int (nI y))]) hx hb dX4_parts_71 hl (k := 4) rfl (zz_inc z 1) (by decide) rfl (fun ls hl => ?_)
                    refine lv_goto (tgt := 33) hx hb dX4_parts_74 (by decide) ?_
                    exact ih_33 (z + 1) true _ _ _ (by first | assumption | omega) (by rw [al_and, ← hib]; show _ = (ib && decide (gl T nt up y z = gl T nt up (y - 1) z)); first | (rw [c9]; rfl) | (rw [c9, decide_eq_true c8]; rfl) | (rw [c9, decide_eq_false c8]; rfl)) (by omega) hP hD hS (lv_sub hl [2, 3, 4, 1, 0] rfl)
          exact J_33 _ 0 true _ _ _ (by first | assumption | omega) rfl (Nat.lt_succ_self _) hP hD hS (lv_sub hl [2, 3, 4, 1, 0] rfl)
    exact J_20 _ 1 _ _ _ (by first | assumption | omega) (by first | assumption | omega) (by first | assumption | omega) (Nat.lt_succ_self _) hP hD hS (lv_sub hl [2, 1, 0] rfl)
  · skip
    have c1 := (zz_nef (a := nc) (b := 0) (by omega) (by omega)).mp c_1
    have e1 : (0 : Int32) = nI (it (ptG (gl T nt up) nk) (min 1 nc) 0) := by rw [show min 1 nc = 0 from by omega]; rfl
    refine lv_iconst (v := 0) hx hb dX4_parts_12 (by decide) ?_
    refine lv_goto (tgt := 17) hx hb dX4_parts_13 (by decide) ?_
    refine zz_top (y := nI (it (ptG (gl T nt up) nk) (min 1 nc) 0)) e1 ?_
    refine lv_istore_n (lv' := [(1, .int (nI (it (ptG (gl T nt up) nk) (min 1 nc) 0))), (0, .ref (b 0))]) hx hb dX4_parts_17 rfl hl (by decide) rfl (fun ls hl => ?_)
    refine lv_iconst (v := 1) hx hb dX4_parts_18 (by decide) ?_
    refine lv_istore_n (lv' := [(2, .int 1), (1, .int (nI (it (ptG (gl T nt up) nk) (min 1 nc) 0))), (0, .ref (b 0))]) hx hb dX4_parts_19 rfl hl (by decide) rfl (fun ls hl => ?_)
    have J_20 : ∀ (n9 : Nat) (y : Nat) (H : Heap) (locs : List Loc) (ls : Array Slot), (1 ≤ y) → (y ≤ nc + 1) → (1 ≤ nc → y ≤ nc) → nc + 1 - y < n9 → va_P (dC, dI) vwCl (w4 b cI cZ 0 nk pa nc fo th tg nt tb te tk tt ex tc es wy ab re go be) H → va_D A (w4 b cI cZ 0 nk pa nc fo th tg nt tb te tk tt ex tc es wy ab re go be) → va_S A s.heap H locs → lv_has ls 5 [(0, .ref (b 0)), (1, .int (nI (it (ptG (gl T nt up) nk) (min y nc) 0))), (2, .int (nI y))] → W p l e (headSpec wsX4_parts ({ frames := 3, cells := 0, slots := 0, locals := 67 } : Room)).room s m args below meth c H locs 0 0 Q (F0 m 20 ls []) := by
      intro n9
      induction n9 with
      | zero => intro y H locs ls hy hy2 hy3 hmu; exact absurd hmu (Nat.not_lt_zero _)
      | succ n9 ih_20 =>
        intro y H locs ls hy hy2 hy3 hmu hP hD hS hl
        refine lv_iload_n hx hb dX4_parts_20 rfl (lv_at hl 2 rfl) ?_
        refine lv_aload_n hx hb dX4_parts_21 rfl (lv_at hl 0 rfl) ?_
        refine va_get (D := (dC, dI)) (ci := 4) (v := .int (nI nc)) (C := RX4) (T := TX4) (N := 20) hx hb hts (by decide +kernel) hown hK hP 0 rfl rfl 3 (by decide) (hts (.fieldLink RX4 61 "HandlerOptimizerModel" "size" "I") (by decide +kernel)) (fun _ h9 => h9) rfl dX4_parts_22 ?_
        refine lv_icmp_ge (tgt := 95) hx hb dX4_parts_25 (by decide) (fun c_9 => ?_) (fun c_9 => ?_)
        · skip
          have c2 := (zz_get (a := y) (b := nc) (by omega) (by omega)).mp c_9
          refine lv_iload_n hx hb dX4_parts_95 rfl (lv_at hl 1 rfl) ?_
          rw [← hQ]
          have hP9 := hP
          have hD9 := hD
          exact W.iret (v := nI (it (ptG (gl T nt up) nk) (min y nc) 0)) hx hb hr (fun t ht hW => ⟨⟨nI (it (ptG (gl T nt up) nk) (min y nc) 0), (), rfl, (by rw [show min y nc = nc from by omega]; rfl), (by rw [ht]; exact hP9), va_K.moved hW.alike hK, hD9⟩, hS.F ht⟩) hS.2.2 dX4_parts_96
        · skip
          have c2 := (zz_gef (a := y) (b := nc) (by omega) (by omega)).mp c_9
          refine lv_iconst (v := 1) hx hb dX4_parts_28 (by decide) ?_
          refine lv_istore_n (lv' := [(3, .int 1), (0, .ref (b 0)), (1, .int (nI (it (ptG (gl T nt up) nk) (min y nc) 0))), (2, .int (nI y))]) hx hb dX4_parts_29 rfl hl (by decide) rfl (fun ls hl => ?_)
          refine lv_iconst (v := 0) hx hb dX4_parts_30 (by decide) ?_
          refine lv_istore (lv' := [(4, .int 0), (3, .int 1), (0, .ref (b 0)), (1, .int (nI (it (ptG (gl T nt up) nk) (min y nc) 0))), (2, .int (nI y))]) hx hb dX4_parts_31 hl (by decide) rfl (fun ls hl => ?_)
          have J_33 : ∀ (n9 : Nat) (z : Nat) (ib : Bool) (H : Heap) (locs : List Loc) (ls : Array Slot), (z ≤ nk) → (ib = al (fun k => decide (gl T nt up y k = gl T nt up (y - 1) k)) z) → nk - z < n9 → va_P (dC, dI) vwCl (w4 b cI cZ 0 nk pa nc fo th tg nt tb te tk tt ex tc es wy ab re go be) H → va_D A (w4 b cI cZ 0 nk pa nc fo th tg nt tb te tk tt ex tc es wy ab re go be) → va_S A s.heap H locs → lv_has ls 5 [(0, .ref (b 0)), (1, .int (nI (it (ptG (gl T nt up) nk) (min y nc) 0))), (2, .int (nI y)), (3, .int (bI ib)), (4, .int (nI z))] → W p l e (headSpec wsX4_parts ({ frames := 3, cells := 0, slots := 0, locals := 67 } : Room)).room s m args below meth c H locs 0 0 Q (F0 m 33 ls []) := by
            intro n9
            induction n9 with
            | zero => intro z ib H locs ls hz hib hmu; exact absurd hmu (Nat.not_lt_zero _)
            | succ n9 ih_33 =>
              intro z ib H locs ls hz hib hmu hP hD hS hl
              refine lv_iload hx hb dX4_parts_33 (lv_at hl 4 rfl) ?_
              refine lv_aload_n hx hb dX4_parts_35 rfl (lv_at hl 0 rfl) ?_
              refine va_get (D := (dC, dI)) (ci := 4) (v := .int (nI nk)) (C := RX4) (T := TX4) (N := 20) hx hb hts (by decide +kernel) hown hK hP 0 rfl rfl 1 (by decide) (hts (.fieldLink RX4 7 "HandlerOptimizerModel" "kinds" "I") (by decide +kernel)) (fun _ h9 => h9) rfl dX4_parts_36 ?_
              refine lv_icmp_ge (tgt := 77) hx hb dX4_parts_39 (by decide) (fun c_10 => ?_) (fun c_10 => ?_)
              · skip
                have c7 := (zz_get (a := z) (b := nk) (by omega) (by omega)).mp c_10
                have hib9 : smK (gl T nt up) nk y = ib := by rw [hib, show z = nk from by omega]; rfl
                refine lv_iload_n hx hb dX4_parts_77 rfl (lv_at hl 1 rfl) ?_
                refine lv_iload_n hx hb dX4_parts_78 rfl (lv_at hl 3 rfl) ?_
                refine lv_if_eq (tgt := 86) hx hb dX4_parts_79 (by decide) (fun c_11 => ?_) (fun c_11 => ?_)
                · skip
                  have c6 := zb_0.mp c_11
                  have e9 : it (ptG (gl T nt up) nk) (min (y + 1) nc) 0 = it (ptG (gl T nt up) nk) (min y nc) 0 + 1 := by rw [show min (y + 1) nc = y + 1 from by omega, show min y nc = y from by omega]; simp only [it, ptG]; rw [hib9, c6]; simp
                  refine lv_iconst (v := 1) hx hb dX4_parts_86 (by decide) ?_
                  refine lv_iadd hx hb dX4_parts_87 ?_
                  refine zz_top (y := nI ((it (ptG (gl T nt up) nk) (min y nc) 0) + 1)) (nI_add _ _) ?_
                  refine zz_top (y := nI (it (ptG (gl T nt up) nk) (min (y + 1) nc) 0)) (by first | (rw [e9]; done) | (rw [e9]; rfl)) ?_
                  refine lv_istore_n (lv' := [(1, .int (nI (it (ptG (gl T nt up) nk) (min (y + 1) nc) 0))), (0, .ref (b 0)), (2, .int (nI y)), (3, .int (bI ib)), (4, .int (nI z))]) hx hb dX4_parts_88 rfl hl (by decide) rfl (fun ls hl => ?_)
                  refine lv_iinc (v := nI (y + 1)) (lv' := [(2, .int (nI (y + 1))), (1, .int (nI (it (ptG (gl T nt up) nk) (min (y + 1) nc) 0))), (0, .ref (b 0)), (3, .int (bI ib)), (4, .int (nI z))]) hx hb dX4_parts_89 hl (k := 2) rfl (zz_inc y 1) (by decide) rfl (fun ls hl => ?_)
                  refine lv_goto (tgt := 20) hx hb dX4_parts_92 (by decide) ?_
                  exact ih_20 (y + 1) _ _ _ (by first | assumption | omega) (by first | assumption | omega) (by first | assumption | omega) (by omega) hP hD hS (lv_sub hl [2, 1, 0] rfl)
                · skip
                  have c6 := zb_1.mp c_11
                  have e9 : it (ptG (gl T nt up) nk) (min (y + 1) nc) 0 = it (ptG (gl T nt up) nk) (min y nc) 0 := by rw [show min (y + 1) nc = y + 1 from by omega, show min y nc = y from by omega]; simp only [it, ptG]; rw [hib9, c6, decide_eq_false (show ¬ y = 0 by omega)]; rfl
                  refine lv_iconst (v := 0) hx hb dX4_parts_82 (by decide) ?_
                  refine lv_goto (tgt := 87) hx hb dX4_parts_83 (by decide) ?_
                  refine lv_iadd hx hb dX4_parts_87 ?_
                  refine zz_top (y := nI ((it (ptG (gl T nt up) nk) (min y nc) 0) + 0)) (nI_add _ _) ?_
                  refine zz_top (y := nI (it (ptG (gl T nt up) nk) (min (y + 1) nc) 0)) (by first | (rw [e9]; done) | (rw [e9]; rfl)) ?_
                  refine lv_istore_n (lv' := [(1, .int (nI (it (ptG (gl T nt up) nk) (min (y + 1) nc) 0))), (0, .ref (b 0)), (2, .int (nI y)), (3, .int (bI ib)), (4, .int (nI z))]) hx hb dX4_parts_88 rfl hl (by decide) rfl (fun ls hl => ?_)
                  refine lv_iinc (v := nI (y + 1)) (lv' := [(2, .int (nI (y + 1))), (1, .int (nI (it (ptG (gl T nt up) nk) (min (y + 1) nc) 0))), (0, .ref (b 0)), (3, .int (bI ib)), (4, .int (nI z))]) hx hb dX4_parts_89 hl (k := 2) rfl (zz_inc y 1) (by decide) rfl (fun ls hl => ?_)
                  refine lv_goto (tgt := 20) hx hb dX4_parts_92 (by decide) ?_
                  exact ih_20 (y + 1) _ _ _ (by first | assumption | omega) (by first | assumption | omega) (by first | assumption | omega) (by omega) hP hD hS (lv_sub hl [2, 1, 0] rfl)
              · skip
                have c_10 := (zz_gef (a := z) (b := nk) (by omega) (by omega)).mp c_10
                refine lv_iload_n hx hb dX4_parts_42 rfl (lv_at hl 3 rfl) ?_
                refine lv_if_eq (tgt := 69) hx hb dX4_parts_43 (by decide) (fun c_12 => ?_) (fun c_12 => ?_)
                · skip
                  have c9 := zb_0.mp c_12
                  refine lv_iconst (v := 0) hx hb dX4_parts_69 (by decide) ?_
                  refine lv_istore_n (lv' := [(3, .int 0), (0, .ref (b 0)), (1, .int (nI (it (ptG (gl T nt up) nk) (min y nc) 0))), (2, .int (nI y)), (4, .int (nI z))]) hx hb dX4_parts_70 rfl hl (by decide) rfl (fun ls hl => ?_)
                  refine lv_iinc (v := nI (z + 1)) (lv' := [(4, .int (nI (z + 1))), (3, .int 0), (0, .ref (b 0)), (1, .int (nI (it (ptG (gl T nt up) nk) (min y nc) 0))), (2, .int (nI y))]) hx hb dX4_parts_71 hl (k := 4) rfl (zz_inc z 1) (by decide) rfl (fun ls hl => ?_)
                  refine lv_goto (tgt := 33) hx hb dX4_parts_74 (by decide) ?_
                  exact ih_33 (z + 1) false _ _ _ (by first | assumption | omega) (by rw [al_and, ← hib]; show _ = (ib && decide (gl T nt up y z = gl T nt up (y - 1) z)); first | (rw [c9]; rfl) | (rw [c9, decide_eq_true c8]; rfl) | (rw [c9, decide_eq_false c8]; rfl)) (by omega) hP hD hS (lv_sub hl [2, 3, 4, 1, 0] rfl)
                · skip
                  have c9 := zb_1.mp c_12
                  refine lv_aload_n hx hb dX4_parts_46 rfl (lv_at hl 0 rfl) ?_
                  refine lv_iload_n hx hb dX4_parts_47 rfl (lv_at hl 2 rfl) ?_
                  refine lv_iconst (v := 1) hx hb dX4_parts_48 (by decide) ?_
                  refine lv_isub hx hb dX4_parts_49 ?_
                  refine zz_top (y := nI (y - 1)) (zz_pred (by omega)) ?_
                  refine lv_iload hx hb dX4_parts_50 (lv_at hl 4 rfl) ?_
                  refine va_calli (va_runV (As := [.int (nI (y - 1)), .int (nI z)]) (rest := []) ⟨hx, hb, hml, hown, hts⟩ (c_X4_goal l dC dI cI cZ cJ b 0 nk pa nc fo th tg nt tb te tk tt ex tc es wy ab re go be (y - 1) z T up (by first | assumption | omega) (by first | assumption | omega) (by omega) (by omega)) (cwV 2 hts gX4_parts_X4_goal rfl rfl rfl (by decide +kernel) ⟨Nat.le_of_ble_eq_true rfl, Nat.le_of_ble_eq_true rfl⟩) ⟨zPre_blind, va_recv hK hP (ci := 4) (q0 := 0) rfl rfl, zPre_at hP hK hn⟩ rfl rfl hl.1 rfl (lv_room (Nat.le_of_ble_eq_true rfl)) dX4_parts_52 ⟨Nat.le_of_ble_eq_true rfl, Nat.le_of_ble_eq_true rfl⟩) hS (fun _ _ h => h.elim) (fun _ h => h.elim) (fun r_13 u_9 t H locs ht hvm hw hB hz1 hk1 hS => ?_)
                  have hP := zkeep hP hk1
                  subst hw
                  refine lv_aload_n hx hb dX4_parts_55 rfl (lv_at hl 0 rfl) ?_
                  refine lv_iload_n hx hb dX4_parts_56 rfl (lv_at hl 2 rfl) ?_
                  refine lv_iload hx hb dX4_parts_57 (lv_at hl 4 rfl) ?_
                  refine va_calli (va_runV (As := [.int (nI y), .int (nI z)]) (rest := [.int (gl T nt up (y - 1) z)]) ⟨hx, hb, hml, hown, hts⟩ (c_X4_goal l dC dI cI cZ cJ b 0 nk pa nc fo th tg nt tb te tk tt ex tc es wy ab re go be y z T up (by first | assumption | omega) (by first | assumption | omega) (by omega) (by omega)) (cwV 2 hts gX4_parts_X4_goal rfl rfl rfl (by decide +kernel) ⟨Nat.le_of_ble_eq_true rfl, Nat.le_of_ble_eq_true rfl⟩) ⟨zPre_blind, va_recv hK hP (ci := 4) (q0 := 0) rfl rfl, zPre_at hP hK hn⟩ rfl rfl hl.1 rfl (lv_room (Nat.le_of_ble_eq_true rfl)) dX4_parts_59 ⟨Nat.le_of_ble_eq_true rfl, Nat.le_of_ble_eq_true rfl⟩) hS (fun _ _ h => h.elim) (fun _ h => h.elim) (fun r_14 u_9 t H locs ht hvm hw hB hz1 hk1 hS => ?_)
                  have hP := zkeep hP hk1
                  subst hw
                  refine lv_icmp_ne (tgt := 69) hx hb dX4_parts_62 (by decide) (fun c_15 => ?_) (fun c_15 => ?_)
                  · skip
                    have c8 : ¬ gl T nt up y z = gl T nt up (y - 1) z := fun q => c_15 q.symm
                    refine lv_iconst (v := 0) hx hb dX4_parts_69 (by decide) ?_
                    refine lv_istore_n (lv' := [(3, .int 0), (0, .ref (b 0)), (1, .int (nI (it (ptG (gl T nt up) nk) (min y nc) 0))), (2, .int (nI y)), (4, .int (nI z))]) hx hb dX4_parts_70 rfl hl (by decide) rfl (fun ls hl => ?_)
                    refine lv_iinc (v := nI (z + 1)) (lv' := [(4, .int (nI (z + 1))), (3, .int 0), (0, .ref (b 0)), (1, .int (nI (it (ptG (gl T nt up) nk) (min y nc) 0))), (2, .int (nI y))]) hx hb dX4_parts_71 hl (k := 4) rfl (zz_inc z 1) (by decide) rfl (fun ls hl => ?_)
                    refine lv_goto (tgt := 33) hx hb dX4_parts_74 (by decide) ?_
                    exact ih_33 (z + 1) false _ _ _ (by first | assumption | omega) (by rw [al_and, ← hib]; show _ = (ib && decide (gl T nt up y z = gl T nt up (y - 1) z)); first | (rw [c9]; rfl) | (rw [c9, decide_eq_true c8]; rfl) | (rw [c9, decide_eq_false c8]; rfl)) (by omega) hP hD hS (lv_sub hl [2, 3, 4, 1, 0] rfl)
                  · skip
                    have c8 : gl T nt up y z = gl T nt up (y - 1) z := (c_15).symm
                    refine lv_iconst (v := 1) hx hb dX4_parts_65 (by decide) ?_
                    refine lv_goto (tgt := 70) hx hb dX4_parts_66 (by decide) ?_
                    refine lv_istore_n (lv' := [(3, .int 1), (0, .ref (b 0)), (1, .int (nI (it (ptG (gl T nt up) nk) (min y nc) 0))), (2, .int (nI y)), (4, .int (nI z))]) hx hb dX4_parts_70 rfl hl (by decide) rfl (fun ls hl => ?_)
                    refine lv_iinc (v := nI (z + 1)) (lv' := [(4, .int (nI (z + 1))), (3, .int 1), (0, .ref (b 0)), (1, .int (nI (it (ptG (gl T nt up) nk) (min y nc) 0))), (2, .int (nI y))]) hx hb dX4_parts_71 hl (k := 4) rfl (zz_inc z 1) (by decide) rfl (fun ls hl => ?_)
                    refine lv_goto (tgt := 33) hx hb dX4_parts_74 (by decide) ?_
                    exact ih_33 (z + 1) true _ _ _ (by first | assumption | omega) (by rw [al_and, ← hib]; show _ = (ib && decide (gl T nt up y z = gl T nt up (y - 1) z)); first | (rw [c9]; rfl) | (rw [c9, decide_eq_true c8]; rfl) | (rw [c9, decide_eq_false c8]; rfl)) (by omega) hP hD hS (lv_sub hl [2, 3, 4, 1, 0] rfl)
          exact J_33 _ 0 true _ _ _ (by first | assumption | omega) rfl (Nat.lt_succ_self _) hP hD hS (lv_sub hl [2, 3, 4, 1, 0] rfl)
    exact J_20 _ 1 _ _ _ (by first | assumption | omega) (by first | assumption | omega) (by first | assumption | omega) (Nat.lt_succ_self _) hP hD hS (lv_sub hl [2, 1, 0] rfl)

set_option maxHeartbeats 4000000 in
set_option maxRecDepth 100000 in
theorem c_X4_share (l : Launch) (dC : Nat → ClassId) (dI : Nat → Nat → Nat) (cI cZ cJ : ClassId) (b : Nat → Nat) (tw : Int32) (nk : Nat) (pa : Nat → Int32) (nc : Nat) (fo : Nat → Int32) (th : Nat → Int32) (tg : Nat → Int32) (nt : Nat) (tb : Nat → Int32) (te : Nat → Int32) (tk : Nat → Int32) (tt : Nat → Int32) (ex : Int32) (tc : Int32) (es : Int32) (wy : Int64) (ab : Nat → Int32) (re : Nat → Int32) (go : Nat → Int32) (be : Nat → Int32) (T : Nat → Nat → Nat) (up : Nat → Nat → Bool) (sz : Nat) (hg : g4 nk ab up nt tb te tk tt T) (hc : okC nk nc fo th tg) : MetD lw_cs l yX4_share wsX4_share ({ frames := 4, cells := 0, slots := 0, locals := 90 } : Room) (va_Pc [.ref (b 0)] (zWr (dC, dI) [(cI, .int), (cZ, .boolean), (cJ, .long)] (w4 b cI cZ tw nk pa nc fo th tg nt tb te tk tt ex tc es wy ab re go be) sz)) (va_Qd (fun (r : UInt64) (re9 : Nat → Int32) => alike64 r (shD (saN (RB nk nc fo th tg T nt up) th nk nc) (scN (RB nk nc fo th tg T nt up) th (tkf T nt up) nt nk nc)) = true) (fun re9 t => zWo (dC, dI) [(cI, .int), (cZ, .boolean), (cJ, .long)] (w4 b cI cZ 0 nk pa nc fo th tg nt tb te tk tt ex tc es wy ab re9 go be) (va_A (w4 b cI cZ tw nk pa nc fo th tg nt tb te tk tt ex tc es wy ab re go be) sz) t) (va_A (w4 b cI cZ tw nk pa nc fo th tg nt tb te tk tt ex tc es wy ab re go be) sz)) 0 0 (va_A (w4 b cI cZ tw nk pa nc fo th tg nt tb te tk tt ex tc es wy ab re go be) sz) := by
  refine MetD.ofW (cc := cX4_share) (maxL := 5) (ret := (some .double)) (by decide) rfl ?_
  intro p e s m args below meth c s₁ B hml hv hd0
  obtain ⟨hav, hsz, ⟨hP, hK, hn⟩, hD0⟩ := hv
  have hx := B.exec
  have hb := B.bytes
  have hr := B.returns
  have hts := atoms_spec (ws := wsX4_share) B.pre
  have hown : s.vm.findClass RX4 = some m.cls := findClass_of_methodNamed B.named
  have hlocks := B.notSynchronized
  subst hsz
  have hD := hD0.self (sz := s.heap.size)
  generalize hAe : (va_A (w4 b cI cZ tw nk pa nc fo th tg nt tb te tk tt ex tc es wy ab re go be) s.heap.size) = A at hD ⊢
  have hA : ∀ q : Nat, s.heap.size ≤ q → A q := fun q h => by rw [← hAe]; exact Or.inr h
  have hS : va_S A s.heap s.heap [] := va_S.rf
  generalize hQ : MQD lw_cs below (va_Qd (fun (r : UInt64) (re9 : Nat → Int32) => alike64 r (shD (saN (RB nk nc fo th tg T nt up) th nk nc) (scN (RB nk nc fo th tg T nt up) th (tkf T nt up) nt nk nc)) = true) (fun re9 t => zWo (dC, dI) [(cI, .int), (cZ, .boolean), (cJ, .long)] (w4 b cI cZ 0 nk pa nc fo th tg nt tb te tk tt ex tc es wy ab re9 go be) A t) A) args s 0 0 A = Q
  refine zz_unbase ?_
  refine W.eq (g2 := entryFrame m ([.ref (b 0)] : List Value).toArray 5) (by rw [hav]) ?_
  have hl := lv_entry ([.ref (b 0)]) (n := 5) (Nat.le_of_ble_eq_true rfl)
  rw [lg_entry_eq]
  generalize (lg_sl ([.ref (b 0)]) ++ List.replicate (5 - (lg_sl ([.ref (b 0)])).length) Slot.unset).toArray = ls at hl ⊢
  have hl : lv_has ls 5 [(0, .ref (b 0))] := hl
  obtain ⟨H, hH⟩ : ∃ H, H = s.heap := ⟨_, rfl⟩
  obtain ⟨locs, hlo⟩ : ∃ q : List Loc, q = [] := ⟨_, rfl⟩
  have hP : va_P (dC, dI) vwCl (w4 b cI cZ tw nk pa nc fo th tg nt tb te tk tt ex tc es wy ab re go be) H := by rw [hH]; exact hP
  have hS : va_S A s.heap H locs := by rw [hH, hlo]; exact hS
  refine zz_hl hH hlo ?_
  obtain ⟨hk01, hk8, hnt, hT, hO, hF, hU⟩ := id hg
  obtain ⟨hnc, hC⟩ := id hc
  refine lv_aload_n hx hb dX4_share_0 rfl (lv_at hl 0 rfl) ?_
  refine lv_iconst (v := 0) hx hb dX4_share_1 (by decide) ?_
  refine va_put (D := (dC, dI)) (ci := 4) (v := .int 0) (ty := .int) (C := RX4) (T := TX4) (N := 20) hx hb hts (by decide +kernel) tyX4 tyX4_ok nmX4 hown hK hP hD hS 0 rfl rfl 0 (by decide) (hts (.fieldLink RX4 54 "HandlerOptimizerModel" "thrown" "I") (by decide +kernel)) (fun _ h9 => h9) rfl (by decide +kernel) rfl rfl (Nat.le_of_ble_eq_true rfl) dX4_share_2 (fun H locs hP hD hS => ?_)
  have hP : va_P (dC, dI) vwCl (w4 b cI cZ 0 nk pa nc fo th tg nt tb te tk tt ex tc es wy ab re go be) H := hP
  have hD : va_D A (w4 b cI cZ 0 nk pa nc fo th tg nt tb te tk tt ex tc es wy ab re go be) := hD
  refine lv_aload_n hx hb dX4_share_5 rfl (lv_at hl 0 rfl) ?_
  have hDc := hD
  have hFc := va_free (wc := w4 b cI cZ 0 nk pa nc fo th tg nt tb te tk tt ex tc es wy ab re go be) hD hS hA [0, 1, 2, 3, 4, 5, 6, 7, 8, 9, 10, 11, 12] rfl
  refine va_callv (va_runV (As := []) (rest := []) ⟨hx, hb, hml, hown, hts⟩ (c_X4_reach l dC dI cI cZ cJ b 0 nk pa nc fo th tg nt tb te tk tt ex tc es wy ab re go be T up H.size (by first | assumption | omega) (by first | assumption | omega)) (cwV 0 hts gX4_share_X4_reach rfl rfl rfl (by decide +kernel) ⟨Nat.le_of_ble_eq_true rfl, Nat.le_of_ble_eq_true rfl⟩) ⟨zWr_blind, va_recv hK hP (ci := 4) (q0 := 0) rfl rfl, zWr_at hP hK hn (hDc.weaken (fun _ _ _ _ => trivial))⟩ rfl rfl hl.1 rfl (lv_room (Nat.le_of_ble_eq_true rfl)) dX4_share_6 ⟨Nat.le_of_ble_eq_true rfl, Nat.le_of_ble_eq_true rfl⟩) hS (fun q _ h => hFc q h) hFc (fun u_9 t H1 locs ht hvm hw hB hz1 hk1 hS => ?_)
  obtain ⟨re_n, rfl⟩ : ∃ z, z = u_9 := ⟨_, rfl⟩
  obtain ⟨hP1, -, hD1⟩ := hB
  rw [ht] at hP1
  obtain ⟨hP, hD⟩ := va_join (wr := []) (w1 := w4 b cI cZ 0 nk pa nc fo th tg nt tb te tk tt ex tc es wy ab re_n go be) hP hD [0, 1, 2, 3, 4, 5, 6, 7, 8, 9, 10, 11, 12] [] rfl rfl (by decide) (by decide) hk1 hFc hP1 hD1
  generalize H1 = H at hP hS ⊢
  have hP : va_P (dC, dI) vwCl (w4 b cI cZ 0 nk pa nc fo th tg nt tb te tk tt ex tc es wy ab re_n go be) H := hP
  have hD : va_D A (w4 b cI cZ 0 nk pa nc fo th tg nt tb te tk tt ex tc es wy ab re_n go be) := hD
  have hre := hw
  refine lv_iconst (v := 0) hx hb dX4_share_9 (by decide) ?_
  refine lv_istore_n (lv' := [(1, .int 0), (0, .ref (b 0))]) hx hb dX4_share_10 rfl hl (by decide) rfl (fun ls hl => ?_)
  refine lv_iconst (v := 0) hx hb dX4_share_11 (by decide) ?_
  refine lv_istore_n (lv' := [(2, .int 0), (1, .int 0), (0, .ref (b 0))]) hx hb dX4_share_12 rfl hl (by decide) rfl (fun ls hl => ?_)
  refine lv_iconst (v := 0) hx hb dX4_share_13 (by decide) ?_
  refine lv_istore_n (lv' := [(3, .int 0), (2, .int 0), (1, .int 0), (0, .ref (b 0))]) hx hb dX4_share_14 rfl hl (by decide) rfl (fun ls hl => ?_)
  have J_15 : ∀ (n9 : Nat) (y : Nat) (H : Heap) (locs : List Loc) (ls : Array Slot), (y ≤ nc) → nc - y < n9 → va_P (dC, dI) vwCl (w4 b cI cZ 0 nk pa nc fo th tg nt tb te tk tt ex tc es wy ab re_n go be) H → va_D A (w4 b cI cZ 0 nk pa nc fo th tg nt tb te tk tt ex tc es wy ab re_n go be) → va_S A s.heap H locs → lv_has ls 5 [(0, .ref (b 0)), (1, .int (nI (it (fun i s => it (saG (RB nk nc fo th tg T nt up) th i) nk s) y 0))), (2, .int (nI (it (fun i s => it (scG (RB nk nc fo th tg T nt up) th (tkf T nt up) nt i) nk s) y 0))), (3, .int (nI y))] → W p l e (headSpec wsX4_share ({ frames := 4, cells := 0, slots := 0, locals := 90 } : Room)).room s m args below meth c H locs 0 0 Q (F0 m 15 ls []) := by
    intro n9
    induction n9 with
    | zero => intro y H locs ls hy hmu; exact absurd hmu (Nat.not_lt_zero _)
    | succ n9 ih_15 =>
      intro y H locs ls hy hmu hP hD hS hl
      refine lv_iload_n hx hb dX4_share_15 rfl (lv_at hl 3 rfl) ?_
      refine lv_aload_n hx hb dX4_share_16 rfl (lv_at hl 0 rfl) ?_
      refine va_get (D := (dC, dI)) (ci := 4) (v := .int (nI nc)) (C := RX4) (T := TX4) (N := 20) hx hb hts (by decide +kernel) hown hK hP 0 rfl rfl 3 (by decide) (hts (.fieldLink RX4 61 "HandlerOptimizerModel" "size" "I") (by decide +kernel)) (fun _ h9 => h9) rfl dX4_share_17 ?_
      refine lv_icmp_ge (tgt := 111) hx hb dX4_share_20 (by decide) (fun c_3 => ?_) (fun c_3 => ?_)
      · skip
        have c5 := (zz_get (a := y) (b := nc) (by omega) (by omega)).mp c_3
        rw [show y = nc from by omega] at hl
        refine lv_iload_n hx hb dX4_share_111 rfl (lv_at hl 1 rfl) ?_
        refine lv_if_ne (tgt := 119) hx hb dX4_share_112 (by decide) (fun c_4 => ?_) (fun c_4 => ?_)
        · skip
          have c7 := (zz_net (a := it (fun i s => it (saG (RB nk nc fo th tg T nt up) th i) nk s) nc 0) (b := 0) (by have := saN_le (v := RB nk nc fo th tg T nt up) (th := th) (nk := nk) (n := nc) hk8; simp only [saN] at this; omega) (by omega)).mp c_4
          refine lv_iload_n hx hb dX4_share_119 rfl (lv_at hl 2 rfl) ?_
          refine lv_i2d hx hb dX4_share_120 ?_
          refine lv_iload_n hx hb dX4_share_121 rfl (lv_at hl 1 rfl) ?_
          refine lv_i2d hx hb dX4_share_122 ?_
          refine W.base ?_
          refine lv_ddiv_any hd0 lw_bits hx hb dX4_share_123 (fun rD d1 hal hd1 => ?_)
          rw [← hQ]
          refine W.endD hd1 ?_
          have hP9 := hP
          have hD9 := hD
          exact W.dret (v := rD) hx hb hr (fun t ht hW => ⟨⟨rD, re_n, rfl, (by show alike64 _ (shD _ _) = true; first | (rw [shD, if_pos (show saN (RB nk nc fo th tg T nt up) th nk nc = 0 from c7)]; exact zz_al) | (rw [shD, if_neg (show ¬ saN (RB nk nc fo th tg T nt up) th nk nc = 0 from c7)]; exact hal)), (by rw [ht]; exact hP9), va_K.moved hW.alike hK, hD9⟩, hS.F ht⟩) hS.2.2 dX4_share_124
        · skip
          have c7 := (zz_nef (a := it (fun i s => it (saG (RB nk nc fo th tg T nt up) th i) nk s) nc 0) (b := 0) (by have := saN_le (v := RB nk nc fo th tg T nt up) (th := th) (nk := nk) (n := nc) hk8; simp only [saN] at this; omega) (by omega)).mp c_4
          refine lv_dconst0 hx hb dX4_share_115 ?_
          refine lv_goto (tgt := 124) hx hb dX4_share_116 (by decide) ?_
          rw [← hQ]
          refine W.base ?_
          refine W.endD hd0 ?_
          have hP9 := hP
          have hD9 := hD
          exact W.dret (v := FP.dconst0) hx hb hr (fun t ht hW => ⟨⟨FP.dconst0, re_n, rfl, (by show alike64 _ (shD _ _) = true; first | (rw [shD, if_pos (show saN (RB nk nc fo th tg T nt up) th nk nc = 0 from c7)]; exact zz_al) | (rw [shD, if_neg (show ¬ saN (RB nk nc fo th tg T nt up) th nk nc = 0 from c7)]; exact hal)), (by rw [ht]; exact hP9), va_K.moved hW.alike hK, hD9⟩, hS.F ht⟩) hS.2.2 dX4_share_124
      · skip
        have c_3 := (zz_gef (a := y) (b := nc) (by omega) (by omega)).mp c_3
        refine lv_iconst (v := 0) hx hb dX4_share_23 (by decide) ?_
        refine lv_istore (lv' := [(4, .int 0), (0, .ref (b 0)), (1, .int (nI (it (fun i s => it (saG (RB nk nc fo th tg T nt up) th i) nk s) y 0))), (2, .int (nI (it (fun i s => it (scG (RB nk nc fo th tg T nt up) th (tkf T nt up) nt i) nk s) y 0))), (3, .int (nI y))]) hx hb dX4_share_24 hl (by decide) rfl (fun ls hl => ?_)
        have J_26 : ∀ (n9 : Nat) (z : Nat) (H : Heap) (locs : List Loc) (ls : Array Slot), (z ≤ nk) → nk - z < n9 → va_P (dC, dI) vwCl (w4 b cI cZ 0 nk pa nc fo th tg nt tb te tk tt ex tc es wy ab re_n go be) H → va_D A (w4 b cI cZ 0 nk pa nc fo th tg nt tb te tk tt ex tc es wy ab re_n go be) → va_S A s.heap H locs → lv_has ls 5 [(0, .ref (b 0)), (1, .int (nI (it (saG (RB nk nc fo th tg T nt up) th y) z (it (fun i s => it (saG (RB nk nc fo th tg T nt up) th i) nk s) y 0)))), (2, .int (nI (it (scG (RB nk nc fo th tg T nt up) th (tkf T nt up) nt y) z (it (fun i s => it (scG (RB nk nc fo th tg T nt up) th (tkf T nt up) nt i) nk s) y 0)))), (3, .int (nI y)), (4, .int (nI z))] → W p l e (headSpec wsX4_share ({ frames := 4, cells := 0, slots := 0, locals := 90 } : Room)).room s m args below meth c H locs 0 0 Q (F0 m 26 ls []) := by
          intro n9
          induction n9 with
          | zero => intro z H locs ls hz hmu; exact absurd hmu (Nat.not_lt_zero _)
          | succ n9 ih_26 =>
            intro z H locs ls hz hmu hP hD hS hl
            refine lv_iload hx hb dX4_share_26 (lv_at hl 4 rfl) ?_
            refine lv_aload_n hx hb dX4_share_28 rfl (lv_at hl 0 rfl) ?_
            refine va_get (D := (dC, dI)) (ci := 4) (v := .int (nI nk)) (C := RX4) (T := TX4) (N := 20) hx hb hts (by decide +kernel) hown hK hP 0 rfl rfl 1 (by decide) (hts (.fieldLink RX4 7 "HandlerOptimizerModel" "kinds" "I") (by decide +kernel)) (fun _ h9 => h9) rfl dX4_share_29 ?_
            refine lv_icmp_ge (tgt := 105) hx hb dX4_share_32 (by decide) (fun c_5 => ?_) (fun c_5 => ?_)
            · skip
              have c1 := (zz_get (a := z) (b := nk) (by omega) (by omega)).mp c_5
              rw [show z = nk from by omega] at hl
              refine lv_iinc (v := nI (y + 1)) (lv' := [(3, .int (nI (y + 1))), (0, .ref (b 0)), (1, .int (nI (it (saG (RB nk nc fo th tg T nt up) th y) nk (it (fun i s => it (saG (RB nk nc fo th tg T nt up) th i) nk s) y 0)))), (2, .int (nI (it (scG (RB nk nc fo th tg T nt up) th (tkf T nt up) nt y) nk (it (fun i s => it (scG (RB nk nc fo th tg T nt up) th (tkf T nt up) nt i) nk s) y 0)))), (4, .int (nI nk))]) hx hb dX4_share_105 hl (k := 3) rfl (zz_inc y 1) (by decide) rfl (fun ls hl => ?_)
              refine lv_goto (tgt := 15) hx hb dX4_share_108 (by decide) ?_
              exact ih_15 (y + 1) _ _ _ (by first | assumption | omega) (by omega) hP hD hS (lv_sub hl [1, 2, 3, 0] rfl)
            · skip
              have c_5 := (zz_gef (a := z) (b := nk) (by omega) (by omega)).mp c_5
              refine lv_aload_n hx hb dX4_share_35 rfl (lv_at hl 0 rfl) ?_
              refine va_get (D := (dC, dI)) (ci := 4) (v := .ref (b 10)) (C := RX4) (T := TX4) (N := 20) hx hb hts (by decide +kernel) hown hK hP 0 rfl rfl 17 (by decide) (hts (.fieldLink RX4 44 "HandlerOptimizerModel" "areReached" "[Z") (by decide +kernel)) (fun _ h9 => h9) rfl dX4_share_36 ?_
              refine lv_iload_n hx hb dX4_share_39 rfl (lv_at hl 3 rfl) ?_
              refine va_zald hx hb hK hP 10 1 rfl rfl (vp_in_nI (n := y) (by omega) (by decide)) dX4_share_40 ?_
              refine zz_top (y := re_n y) (congrArg _ (nI_clamp (by omega))) ?_
              refine zz_top (y := bI (RB nk nc fo th tg T nt up y)) (hre y (by omega)) ?_
              refine lv_if_eq (tgt := 105) hx hb dX4_share_41 (by decide) (fun c_6 => ?_) (fun c_6 => ?_)
              · skip
                have c9 := zb_0.mp c_6
                have k1 : ∀ n s, it (saG (RB nk nc fo th tg T nt up) th y) n s = s := fun n s => it_id (fun k x _ => by simp [saG, c9])
                have k2 : ∀ n s, it (scG (RB nk nc fo th tg T nt up) th (tkf T nt up) nt y) n s = s := fun n s => it_id (fun k x _ => by simp [scG, c9])
                have e1 : (it (saG (RB nk nc fo th tg T nt up) th y) z (it (fun i s => it (saG (RB nk nc fo th tg T nt up) th i) nk s) y 0)) = (it (saG (RB nk nc fo th tg T nt up) th y) nk (it (fun i s => it (saG (RB nk nc fo th tg T nt up) th i) nk s) y 0)) := by rw [k1, k1]
                have e2 : (it (scG (RB nk nc fo th tg T nt up) th (tkf T nt up) nt y) z (it (fun i s => it (scG (RB nk nc fo th tg T nt up) th (tkf T nt up) nt i) nk s) y 0)) = (it (scG (RB nk nc fo th tg T nt up) th (tkf T nt up) nt y) nk (it (fun i s => it (scG (RB nk nc fo th tg T nt up) th (tkf T nt up) nt i) nk s) y 0)) := by rw [k2, k2]
                rw [e1, e2] at hl
                refine lv_iinc (v := nI (y + 1)) (lv' := [(3, .int (nI (y + 1))), (0, .ref (b 0)), (1, .int (nI (it (saG (RB nk nc fo th tg T nt up) th y) nk (it (fun i s => it (saG (RB nk nc fo th tg T nt up) th i) nk s) y 0)))), (2, .int (nI (it (scG (RB nk nc fo th tg T nt up) th (tkf T nt up) nt y) nk (it (fun i s => it (scG (RB nk nc fo th tg T nt up) th (tkf T nt up) nt i) nk s) y 0)))), (4, .int (nI z))]) hx hb dX4_share_105 hl (k := 3) rfl (zz_inc y 1) (by decide) rfl (fun ls hl => ?_)
                refine lv_goto (tgt := 15) hx hb dX4_share_108 (by decide) ?_
                exact ih_15 (y + 1) _ _ _ (by first | assumption | omega) (by omega) hP hD hS (lv_sub hl [1, 2, 3, 0] rfl)
              · skip
                have c9 := zb_1.mp c_6
                refine lv_iload_n hx hb dX4_share_44 rfl (lv_at hl 1 rfl) ?_
                refine lv_aload_n hx hb dX4_share_45 rfl (lv_at hl 0 rfl) ?_
                refine va_get (D := (dC, dI)) (ci := 4) (v := .ref (b 3)) (C := RX4) (T := TX4) (N := 20) hx hb hts (by decide +kernel) hown hK hP 0 rfl rfl 5 (by decide) (hts (.fieldLink RX4 20 "HandlerOptimizerModel" "errors" "[I") (by decide +kernel)) (fun _ h9 => h9) rfl dX4_share_46 ?_
                refine lv_iload_n hx hb dX4_share_49 rfl (lv_at hl 3 rfl) ?_
                refine va_iald hx hb hK hP 3 0 rfl rfl (vp_in_nI (n := y) (by omega) (by decide)) dX4_share_50 ?_
                refine zz_top (y := th y) (congrArg _ (nI_clamp (by omega))) ?_
                refine lv_iload hx hb dX4_share_51 (lv_at hl 4 rfl) ?_
                have hPc : va_P (dC, dI) vwCl [] H := fun k q h => by simp at h
                refine va_calli (va_runS (As := [.int (th y), .int (nI z)]) (rest := [.int (nI (it (saG (RB nk nc fo th tg T nt up) th y) z (it (fun i s => it (saG (RB nk nc fo th tg T nt up) th i) nk s) y 0)))]) ⟨hx, hb, hml, hown, hts⟩ (c_X4_has l dC dI cI cZ cJ (th y) z (by omega)) (va_cwS 2 hts gX4_share_X4_has rfl rfl rfl (by decide +kernel) ⟨Nat.le_of_ble_eq_true rfl, Nat.le_of_ble_eq_true rfl⟩) ⟨zPre_blind, zPre_at hPc hK hn⟩ rfl rfl hl.1 rfl (lv_room (Nat.le_of_ble_eq_true rfl)) dX4_share_53 ⟨Nat.le_of_ble_eq_true rfl, Nat.le_of_ble_eq_true rfl⟩) hS (fun _ _ h => h.elim) (fun _ h => h.elim) (fun r_7 u_9 t H locs ht hvm hw hB hz1 hk1 hS => ?_)
                have hP := zkeep hP hk1
                subst hw
                refine lv_if_eq (tgt := 63) hx hb dX4_share_56 (by decide) (fun c_8 => ?_) (fun c_8 => ?_)
                · skip
                  have c8 := zb_0.mp c_8
                  have e1 : (it (saG (RB nk nc fo th tg T nt up) th y) (z + 1) (it (fun i s => it (saG (RB nk nc fo th tg T nt up) th i) nk s) y 0)) = (it (saG (RB nk nc fo th tg T nt up) th y) z (it (fun i s => it (saG (RB nk nc fo th tg T nt up) th i) nk s) y 0)) := by simp only [it, saG]; simp [*]
                  refine lv_iconst (v := 0) hx hb dX4_share_63 (by decide) ?_
                  refine lv_iadd hx hb dX4_share_64 ?_
                  refine zz_top (y := nI ((it (saG (RB nk nc fo th tg T nt up) th y) z (it (fun i s => it (saG (RB nk nc fo th tg T nt up) th i) nk s) y 0)) + 0)) (nI_add _ _) ?_
                  refine zz_top (y := nI (it (saG (RB nk nc fo th tg T nt up) th y) (z + 1) (it (fun i s => it (saG (RB nk nc fo th tg T nt up) th i) nk s) y 0))) (by first | (rw [e1]; done) | (rw [e1]; rfl)) ?_
                  refine lv_istore_n (lv' := [(1, .int (nI (it (saG (RB nk nc fo th tg T nt up) th y) (z + 1) (it (fun i s => it (saG (RB nk nc fo th tg T nt up) th i) nk s) y 0)))), (0, .ref (b 0)), (2, .int (nI (it (scG (RB nk nc fo th tg T nt up) th (tkf T nt up) nt y) z (it (fun i s => it (scG (RB nk nc fo th tg T nt up) th (tkf T nt up) nt i) nk s) y 0)))), (3, .int (nI y)), (4, .int (nI z))]) hx hb dX4_share_65 rfl hl (by decide) rfl (fun ls hl => ?_)
                  refine lv_iload_n hx hb dX4_share_66 rfl (lv_at hl 2 rfl) ?_
                  refine lv_aload_n hx hb dX4_share_67 rfl (lv_at hl 1 rfl) ?_
                  refine va_get (D := (dC, dI)) (ci := 4) (v := .ref (b 3)) (C := RX4) (T := TX4) (N := 20) hx hb hts (by decide +kernel) hown hK hP 0 rfl rfl 5 (by decide) (hts (.fieldLink RX4 20 "HandlerOptimizerModel" "errors" "[I") (by decide +kernel)) (fun _ h9 => h9) rfl dX4_share_68 ?_
                  refine lv_iload_n hx hb dX4_share_71 rfl (lv_at hl 3 rfl) ?_
                  refine va_iald hx hb hK hP 3 0 rfl rfl (vp_in_nI (n := y) (by omega) (by decide)) dX4_share_72 ?_
                  refine zz_top (y := th y) (congrArg _ (nI_clamp (by omega))) ?_
                  refine lv_iload hx hb dX4_share_73 (lv_at hl 4 rfl) ?_
                  have hPc : va_P (dC, dI) vwCl [] H := fun k q h => by simp at h
                  refine va_calli (va_runS (As := [.int (th y), .int (nI z)]) (rest := [.int (nI (it (scG (RB nk nc fo th tg T nt up) th (tkf T nt up) nt y) z (it (fun i s => it (scG (RB nk nc fo th tg T nt up) th (tkf T nt up) nt i) nk s) y 0)))]) ⟨hx, hb, hml, hown, hts⟩ (c_X4_has l dC dI cI cZ cJ (th y) z (by omega)) (va_cwS 2 hts gX4_share_X4_has rfl rfl rfl (by decide +kernel) ⟨Nat.le_of_ble_eq_true rfl, Nat.le_of_ble_eq_true rfl⟩) ⟨zPre_blind, zPre_at hPc hK hn⟩ rfl rfl hl.1 rfl (lv_room (Nat.le_of_ble_eq_true rfl)) dX4_share_75 ⟨Nat.le_of_ble_eq_true rfl, Nat.le_of_ble_eq_true rfl⟩) hS (fun _ _ h => h.elim) (fun _ h => h.elim) (fun r_9 u_9 t H locs ht hvm hw hB hz1 hk1 hS => ?_)
                  have hP := zkeep hP hk1
                  subst hw
                  refine lv_if_eq (tgt := 96) hx hb dX4_share_78 (by decide) (fun c_10 => ?_) (fun c_10 => ?_)
                  · skip
                    have c7 := zb_0.mp c_10
                    have e2 : (it (scG (RB nk nc fo th tg T nt up) th (tkf T nt up) nt y) (z + 1) (it (fun i s => it (scG (RB nk nc fo th tg T nt up) th (tkf T nt up) nt i) nk s) y 0)) = (it (scG (RB nk nc fo th tg T nt up) th (tkf T nt up) nt y) z (it (fun i s => it (scG (RB nk nc fo th tg T nt up) th (tkf T nt up) nt i) nk s) y 0)) := by first | (simp only [it, scG]; simp [*]; done) | exact absurd (c8.symm.trans c7) (by decide)
                    refine lv_iconst (v := 0) hx hb dX4_share_96 (by decide) ?_
                    refine lv_iadd hx hb dX4_share_97 ?_
                    refine zz_top (y := nI ((it (scG (RB nk nc fo th tg T nt up) th (tkf T nt up) nt y) z (it (fun i s => it (scG (RB nk nc fo th tg T nt up) th (tkf T nt up) nt i) nk s) y 0)) + 0)) (nI_add _ _) ?_
                    refine zz_top (y := nI (it (scG (RB nk nc fo th tg T nt up) th (tkf T nt up) nt y) (z + 1) (it (fun i s => it (scG (RB nk nc fo th tg T nt up) th (tkf T nt up) nt i) nk s) y 0))) (by first | (rw [e2]; done) | (rw [e2]; rfl)) ?_
                    refine lv_istore_n (lv' := [(2, .int (nI (it (scG (RB nk nc fo th tg T nt up) th (tkf T nt up) nt y) (z + 1) (it (fun i s => it (scG (RB nk nc fo th tg T nt up) th (tkf T nt up) nt i) nk s) y 0)))), (1, .int (nI (it (saG (RB nk nc fo th tg T nt up) th y) (z + 1) (it (fun i s => it (saG (RB nk nc fo th tg T nt up) th i) nk s) y 0)))), (0, .ref (b 0)), (3, .int (nI y)), (4, .int (nI z))]) hx hb dX4_share_98 rfl hl (by decide) rfl (fun ls hl => ?_)
                    refine lv_iinc (v := nI (z + 1)) (lv' := [(4, .int (nI (z + 1))), (2, .int (nI (it (scG (RB nk nc fo th tg T nt up) th (tkf T nt up) nt y) (z + 1) (it (fun i s => it (scG (RB nk nc fo th tg T nt up) th (tkf T nt up) nt i) nk s) y 0)))), (1, .int (nI (it (saG (RB nk nc fo th tg T nt up) th y) (z + 1) (it (fun i s => it (saG (RB nk nc fo th tg T nt up) th i) nk s) y 0)))), (0, .ref (b 0)), (3, .int (nI y))]) hx hb dX4_share_99 hl (k := 4) rfl (zz_inc z 1) (by decide) rfl (fun ls hl => ?_)
                    refine lv_goto (tgt := 26) hx hb dX4_share_102 (by decide) ?_
                    exact ih_26 (z + 1) _ _ _ (by first | assumption | omega) (by omega) hP hD hS (lv_sub hl [3, 2, 1, 4, 0] rfl)
                  · skip
                    have c7 := zb_1.mp c_10
                    refine lv_aload_n hx hb dX4_share_81 rfl (lv_at hl 1 rfl) ?_
                    refine lv_iload_n hx hb dX4_share_82 rfl (lv_at hl 3 rfl) ?_
                    refine lv_iload hx hb dX4_share_83 (lv_at hl 4 rfl) ?_
                    refine va_calli (va_runV (As := [.int (nI y), .int (nI z)]) (rest := [.int (nI (it (scG (RB nk nc fo th tg T nt up) th (tkf T nt up) nt y) z (it (fun i s => it (scG (RB nk nc fo th tg T nt up) th (tkf T nt up) nt i) nk s) y 0)))]) ⟨hx, hb, hml, hown, hts⟩ (c_X4_takerOf l dC dI cI cZ cJ b 0 nk pa nc fo th tg nt tb te tk tt ex tc es wy ab re_n go be y z T up (by first | assumption | omega) (by first | assumption | omega) (by omega) (by omega)) (cwV 2 hts gX4_share_X4_takerOf rfl rfl rfl (by decide +kernel) ⟨Nat.le_of_ble_eq_true rfl, Nat.le_of_ble_eq_true rfl⟩) ⟨zPre_blind, va_recv hK hP (ci := 4) (q0 := 0) rfl rfl, zPre_at hP hK hn⟩ rfl rfl hl.1 rfl (lv_room (Nat.le_of_ble_eq_true rfl)) dX4_share_85 ⟨Nat.le_of_ble_eq_true rfl, Nat.le_of_ble_eq_true rfl⟩) hS (fun _ _ h => h.elim) (fun _ h => h.elim) (fun r_11 u_9 t H locs ht hvm hw hB hz1 hk1 hS => ?_)
                    have hP := zkeep hP hk1
                    subst hw
                    refine lv_iconst (v := -1) hx hb dX4_share_88 (by decide) ?_
                    refine lv_icmp_eq (tgt := 96) hx hb dX4_share_89 (by decide) (fun c_12 => ?_) (fun c_12 => ?_)
                    · skip
                      have c6 := tkI_m1 (by omega) c_12
                      have e2 : (it (scG (RB nk nc fo th tg T nt up) th (tkf T nt up) nt y) (z + 1) (it (fun i s => it (scG (RB nk nc fo th tg T nt up) th (tkf T nt up) nt i) nk s) y 0)) = (it (scG (RB nk nc fo th tg T nt up) th (tkf T nt up) nt y) z (it (fun i s => it (scG (RB nk nc fo th tg T nt up) th (tkf T nt up) nt i) nk s) y 0)) := by first | (simp only [it, scG]; simp [*]; done) | exact absurd (c8.symm.trans c7) (by decide)
                      refine lv_iconst (v := 0) hx hb dX4_share_96 (by decide) ?_
                      refine lv_iadd hx hb dX4_share_97 ?_
                      refine zz_top (y := nI ((it (scG (RB nk nc fo th tg T nt up) th (tkf T nt up) nt y) z (it (fun i s => it (scG (RB nk nc fo th tg T nt up) th (tkf T nt up) nt i) nk s) y 0)) + 0)) (nI_add _ _) ?_
                      refine zz_top (y := nI (it (scG (RB nk nc fo th tg T nt up) th (tkf T nt up) nt y) (z + 1) (it (fun i s => it (scG (RB nk nc fo th tg T nt up) th (tkf T nt up) nt i) nk s) y 0))) (by first | (rw [e2]; done) | (rw [e2]; rfl)) ?_
                      refine lv_istore_n (lv' := [(2, .int (nI (it (scG (RB nk nc fo th tg T nt up) th (tkf T nt up) nt y) (z + 1) (it (fun i s => it (scG (RB nk nc fo th tg T nt up) th (tkf T nt up) nt i) nk s) y 0)))), (1, .int (nI (it (saG (RB nk nc fo th tg T nt up) th y) (z + 1) (it (fun i s => it (saG (RB nk nc fo th tg T nt up) th i) nk s) y 0)))), (0, .ref (b 0)), (3, .int (nI y)), (4, .int (nI z))]) hx hb dX4_share_98 rfl hl (by decide) rfl (fun ls hl => ?_)
                      refine lv_iinc (v := nI (z + 1)) (lv' := [(4, .int (nI (z + 1))), (2, .int (nI (it (scG (RB nk nc fo th tg T nt up) th (tkf T nt up) nt y) (z + 1) (it (fun i s => it (scG (RB nk nc fo th tg T nt up) th (tkf T nt up) nt i) nk s) y 0)))), (1, .int (nI (it (saG (RB nk nc fo th tg T nt up) th y) (z + 1) (it (fun i s => it (saG (RB nk nc fo th tg T nt up) th i) nk s) y 0)))), (0, .ref (b 0)), (3, .int (nI y))]) hx hb dX4_share_99 hl (k := 4) rfl (zz_inc z 1) (by decide) rfl (fun ls hl => ?_)
                      refine lv_goto (tgt := 26) hx hb dX4_share_102 (by decide) ?_
                      exact ih_26 (z + 1) _ _ _ (by first | assumption | omega) (by omega) hP hD hS (lv_sub hl [3, 2, 1, 4, 0] rfl)
                    · skip
                      have c6 := tkI_lt (by omega) c_12
                      have e2 : (it (scG (RB nk nc fo th tg T nt up) th (tkf T nt up) nt y) (z + 1) (it (fun i s => it (scG (RB nk nc fo th tg T nt up) th (tkf T nt up) nt i) nk s) y 0)) = (it (scG (RB nk nc fo th tg T nt up) th (tkf T nt up) nt y) z (it (fun i s => it (scG (RB nk nc fo th tg T nt up) th (tkf T nt up) nt i) nk s) y 0)) + 1 := by first | (simp only [it, scG]; simp [*]; done) | exact absurd (c8.symm.trans c7) (by decide)
                      refine lv_iconst (v := 1) hx hb dX4_share_92 (by decide) ?_
                      refine lv_goto (tgt := 97) hx hb dX4_share_93 (by decide) ?_
                      refine lv_iadd hx hb dX4_share_97 ?_
                      refine zz_top (y := nI ((it (scG (RB nk nc fo th tg T nt up) th (tkf T nt up) nt y) z (it (fun i s => it (scG (RB nk nc fo th tg T nt up) th (tkf T nt up) nt i) nk s) y 0)) + 1)) (nI_add _ _) ?_
                      refine zz_top (y := nI (it (scG (RB nk nc fo th tg T nt up) th (tkf T nt up) nt y) (z + 1) (it (fun i s => it (scG (RB nk nc fo th tg T nt up) th (tkf T nt up) nt i) nk s) y 0))) (by first | (rw [e2]; done) | (rw [e2]; rfl)) ?_
                      refine lv_istore_n (lv' := [(2, .int (nI (it (scG (RB nk nc fo th tg T nt up) th (tkf T nt up) nt y) (z + 1) (it (fun i s => it (scG (RB nk nc fo th tg T nt up) th (tkf T nt up) nt i) nk s) y 0)))), (1, .int (nI (it (saG (RB nk nc fo th tg T nt up) th y) (z + 1) (it (fun i s => it (saG (RB nk nc fo th tg T nt up) th i) nk s) y 0)))), (0, .ref (b 0)), (3, .int (nI y)), (4, .int (nI z))]) hx hb dX4_share_98 rfl hl (by decide) rfl (fun ls hl => ?_)
                      refine lv_iinc (v := nI (z + 1)) (lv' := [(4, .int (nI (z + 1))), (2, .int (nI (it (scG (RB nk nc fo th tg T nt up) th (tkf T nt up) nt y) (z + 1) (it (fun i s => it (scG (RB nk nc fo th tg T nt up) th (tkf T nt up) nt i) nk s) y 0)))), (1, .int (nI (it (saG (RB nk nc fo th tg T nt up) th y) (z + 1) (it (fun i s => it (saG (RB nk nc fo th tg T nt up) th i) nk s) y 0)))), (0, .ref (b 0)), (3, .int (nI y))]) hx hb dX4_share_99 hl (k := 4) rfl (zz_inc z 1) (by decide) rfl (fun ls hl => ?_)
                      refine lv_goto (tgt := 26) hx hb dX4_share_102 (by decide) ?_
                      exact ih_26 (z + 1) _ _ _ (by first | assumption | omega) (by omega) hP hD hS (lv_sub hl [3, 2, 1, 4, 0] rfl)
                · skip
                  have c8 := zb_1.mp c_8
                  have e1 : (it (saG (RB nk nc fo th tg T nt up) th y) (z + 1) (it (fun i s => it (saG (RB nk nc fo th tg T nt up) th i) nk s) y 0)) = (it (saG (RB nk nc fo th tg T nt up) th y) z (it (fun i s => it (saG (RB nk nc fo th tg T nt up) th i) nk s) y 0)) + 1 := by simp only [it, saG]; simp [*]
                  refine lv_iconst (v := 1) hx hb dX4_share_59 (by decide) ?_
                  refine lv_goto (tgt := 64) hx hb dX4_share_60 (by decide) ?_
                  refine lv_iadd hx hb dX4_share_64 ?_
                  refine zz_top (y := nI ((it (saG (RB nk nc fo th tg T nt up) th y) z (it (fun i s => it (saG (RB nk nc fo th tg T nt up) th i) nk s) y 0)) + 1)) (nI_add _ _) ?_
                  refine zz_top (y := nI (it (saG (RB nk nc fo th tg T nt up) th y) (z + 1) (it (fun i s => it (saG (RB nk nc fo th tg T nt up) th i) nk s) y 0))) (by first | (rw [e1]; done) | (rw [e1]; rfl)) ?_
                  refine lv_istore_n (lv' := [(1, .int (nI (it (saG (RB nk nc fo th tg T nt up) th y) (z + 1) (it (fun i s => it (saG (RB nk nc fo th tg T nt up) th i) nk s) y 0)))), (0, .ref (b 0)), (2, .int (nI (it (scG (RB nk nc fo th tg T nt up) th (tkf T nt up) nt y) z (it (fun i s => it (scG (RB nk nc fo th tg T nt up) th (tkf T nt up) nt i) nk s) y 0)))), (3, .int (nI y)), (4, .int (nI z))]) hx hb dX4_share_65 rfl hl (by decide) rfl (fun ls hl => ?_)
                  refine lv_iload_n hx hb dX4_share_66 rfl (lv_at hl 2 rfl) ?_
                  refine lv_aload_n hx hb dX4_share_67 rfl (lv_at hl 1 rfl) ?_
                  refine va_get (D := (dC, dI)) (ci := 4) (v := .ref (b 3)) (C := RX4) (T := TX4) (N := 20) hx hb hts (by decide +kernel) hown hK hP 0 rfl rfl 5 (by decide) (hts (.fieldLink RX4 20 "HandlerOptimizerModel" "errors" "[I") (by decide +kernel)) (fun _ h9 => h9) rfl dX4_share_68 ?_
                  refine lv_iload_n hx hb dX4_share_71 rfl (lv_at hl 3 rfl) ?_
                  refine va_iald hx hb hK hP 3 0 rfl rfl (vp_in_nI (n := y) (by omega) (by decide)) dX4_share_72 ?_
                  refine zz_top (y := th y) (congrArg _ (nI_clamp (by omega))) ?_
                  refine lv_iload hx hb dX4_share_73 (lv_at hl 4 rfl) ?_
                  have hPc : va_P (dC, dI) vwCl [] H := fun k q h => by simp at h
                  refine va_calli (va_runS (As := [.int (th y), .int (nI z)]) (rest := [.int (nI (it (scG (RB nk nc fo th tg T nt up) th (tkf T nt up) nt y) z (it (fun i s => it (scG (RB nk nc fo th tg T nt up) th (tkf T nt up) nt i) nk s) y 0)))]) ⟨hx, hb, hml, hown, hts⟩ (c_X4_has l dC dI cI cZ cJ (th y) z (by omega)) (va_cwS 2 hts gX4_share_X4_has rfl rfl rfl (by decide +kernel) ⟨Nat.le_of_ble_eq_true rfl, Nat.le_of_ble_eq_true rfl⟩) ⟨zPre_blind, zPre_at hPc hK hn⟩ rfl rfl hl.1 rfl (lv_room (Nat.le_of_ble_eq_true rfl)) dX4_share_75 ⟨Nat.le_of_ble_eq_true rfl, Nat.le_of_ble_eq_true rfl⟩) hS (fun _ _ h => h.elim) (fun _ h => h.elim) (fun r_13 u_9 t H locs ht hvm hw hB hz1 hk1 hS => ?_)
                  have hP := zkeep hP hk1
                  subst hw
                  refine lv_if_eq (tgt := 96) hx hb dX4_share_78 (by decide) (fun c_14 => ?_) (fun c_14 => ?_)
                  · skip
                    have c7 := zb_0.mp c_14
                    have e2 : (it (scG (RB nk nc fo th tg T nt up) th (tkf T nt up) nt y) (z + 1) (it (fun i s => it (scG (RB nk nc fo th tg T nt up) th (tkf T nt up) nt i) nk s) y 0)) = (it (scG (RB nk nc fo th tg T nt up) th (tkf T nt up) nt y) z (it (fun i s => it (scG (RB nk nc fo th tg T nt up) th (tkf T nt up) nt i) nk s) y 0)) := by first | (simp only [it, scG]; simp [*]; done) | exact absurd (c8.symm.trans c7) (by decide)
                    refine lv_iconst (v := 0) hx hb dX4_share_96 (by decide) ?_
                    refine lv_iadd hx hb dX4_share_97 ?_
                    refine zz_top (y := nI ((it (scG (RB nk nc fo th tg T nt up) th (tkf T nt up) nt y) z (it (fun i s => it (scG (RB nk nc fo th tg T nt up) th (tkf T nt up) nt i) nk s) y 0)) + 0)) (nI_add _ _) ?_
                    refine zz_top (y := nI (it (scG (RB nk nc fo th tg T nt up) th (tkf T nt up) nt y) (z + 1) (it (fun i s => it (scG (RB nk nc fo th tg T nt up) th (tkf T nt up) nt i) nk s) y 0))) (by first | (rw [e2]; done) | (rw [e2]; rfl)) ?_
                    refine lv_istore_n (lv' := [(2, .int (nI (it (scG (RB nk nc fo th tg T nt up) th (tkf T nt up) nt y) (z + 1) (it (fun i s => it (scG (RB nk nc fo th tg T nt up) th (tkf T nt up) nt i) nk s) y 0)))), (1, .int (nI (it (saG (RB nk nc fo th tg T nt up) th y) (z + 1) (it (fun i s => it (saG (RB nk nc fo th tg T nt up) th i) nk s) y 0)))), (0, .ref (b 0)), (3, .int (nI y)), (4, .int (nI z))]) hx hb dX4_share_98 rfl hl (by decide) rfl (fun ls hl => ?_)
                    refine lv_iinc (v := nI (z + 1)) (lv' := [(4, .int (nI (z + 1))), (2, .int (nI (it (scG (RB nk nc fo th tg T nt up) th (tkf T nt up) nt y) (z + 1) (it (fun i s => it (scG (RB nk nc fo th tg T nt up) th (tkf T nt up) nt i) nk s) y 0)))), (1, .int (nI (it (saG (RB nk nc fo th tg T nt up) th y) (z + 1) (it (fun i s => it (saG (RB nk nc fo th tg T nt up) th i) nk s) y 0)))), (0, .ref (b 0)), (3, .int (nI y))]) hx hb dX4_share_99 hl (k := 4) rfl (zz_inc z 1) (by decide) rfl (fun ls hl => ?_)
                    refine lv_goto (tgt := 26) hx hb dX4_share_102 (by decide) ?_
                    exact ih_26 (z + 1) _ _ _ (by first | assumption | omega) (by omega) hP hD hS (lv_sub hl [3, 2, 1, 4, 0] rfl)
                  · skip
                    have c7 := zb_1.mp c_14
                    refine lv_aload_n hx hb dX4_share_81 rfl (lv_at hl 1 rfl) ?_
                    refine lv_iload_n hx hb dX4_share_82 rfl (lv_at hl 3 rfl) ?_
                    refine lv_iload hx hb dX4_share_83 (lv_at hl 4 rfl) ?_
                    refine va_calli (va_runV (As := [.int (nI y), .int (nI z)]) (rest := [.int (nI (it (scG (RB nk nc fo th tg T nt up) th (tkf T nt up) nt y) z (it (fun i s => it (scG (RB nk nc fo th tg T nt up) th (tkf T nt up) nt i) nk s) y 0)))]) ⟨hx, hb, hml, hown, hts⟩ (c_X4_takerOf l dC dI cI cZ cJ b 0 nk pa nc fo th tg nt tb te tk tt ex tc es wy ab re_n go be y z T up (by first | assumption | omega) (by first | assumption | omega) (by omega) (by omega)) (cwV 2 hts gX4_share_X4_takerOf rfl rfl rfl (by decide +kernel) ⟨Nat.le_of_ble_eq_true rfl, Nat.le_of_ble_eq_true rfl⟩) ⟨zPre_blind, va_recv hK hP (ci := 4) (q0 := 0) rfl rfl, zPre_at hP hK hn⟩ rfl rfl hl.1 rfl (lv_room (Nat.le_of_ble_eq_true rfl)) dX4_share_85 ⟨Nat.le_of_ble_eq_true rfl, Nat.le_of_ble_eq_true rfl⟩) hS (fun _ _ h => h.elim) (fun _ h => h.elim) (fun r_15 u_9 t H locs ht hvm hw hB hz1 hk1 hS => ?_)
                    have hP := zkeep hP hk1
                    subst hw
                    refine lv_iconst (v := -1) hx hb dX4_share_88 (by decide) ?_
                    refine lv_icmp_eq (tgt := 96) hx hb dX4_share_89 (by decide) (fun c_16 => ?_) (fun c_16 => ?_)
                    · skip
                      have c6 := tkI_m1 (by omega) c_16
                      have e2 : (it (scG (RB nk nc fo th tg T nt up) th (tkf T nt up) nt y) (z + 1) (it (fun i s => it (scG (RB nk nc fo th tg T nt up) th (tkf T nt up) nt i) nk s) y 0)) = (it (scG (RB nk nc fo th tg T nt up) th (tkf T nt up) nt y) z (it (fun i s => it (scG (RB nk nc fo th tg T nt up) th (tkf T nt up) nt i) nk s) y 0)) := by first | (simp only [it, scG]; simp [*]; done) | exact absurd (c8.symm.trans c7) (by decide)
                      refine lv_iconst (v := 0) hx hb dX4_share_96 (by decide) ?_
                      refine lv_iadd hx hb dX4_share_97 ?_
                      refine zz_top (y := nI ((it (scG (RB nk nc fo th tg T nt up) th (tkf T nt up) nt y) z (it (fun i s => it (scG (RB nk nc fo th tg T nt up) th (tkf T nt up) nt i) nk s) y 0)) + 0)) (nI_add _ _) ?_
                      refine zz_top (y := nI (it (scG (RB nk nc fo th tg T nt up) th (tkf T nt up) nt y) (z + 1) (it (fun i s => it (scG (RB nk nc fo th tg T nt up) th (tkf T nt up) nt i) nk s) y 0))) (by first | (rw [e2]; done) | (rw [e2]; rfl)) ?_
                      refine lv_istore_n (lv' := [(2, .int (nI (it (scG (RB nk nc fo th tg T nt up) th (tkf T nt up) nt y) (z + 1) (it (fun i s => it (scG (RB nk nc fo th tg T nt up) th (tkf T nt up) nt i) nk s) y 0)))), (1, .int (nI (it (saG (RB nk nc fo th tg T nt up) th y) (z + 1) (it (fun i s => it (saG (RB nk nc fo th tg T nt up) th i) nk s) y 0)))), (0, .ref (b 0)), (3, .int (nI y)), (4, .int (nI z))]) hx hb dX4_share_98 rfl hl (by decide) rfl (fun ls hl => ?_)
                      refine lv_iinc (v := nI (z + 1)) (lv' := [(4, .int (nI (z + 1))), (2, .int (nI (it (scG (RB nk nc fo th tg T nt up) th (tkf T nt up) nt y) (z + 1) (it (fun i s => it (scG (RB nk nc fo th tg T nt up) th (tkf T nt up) nt i) nk s) y 0)))), (1, .int (nI (it (saG (RB nk nc fo th tg T nt up) th y) (z + 1) (it (fun i s => it (saG (RB nk nc fo th tg T nt up) th i) nk s) y 0)))), (0, .ref (b 0)), (3, .int (nI y))]) hx hb dX4_share_99 hl (k := 4) rfl (zz_inc z 1) (by decide) rfl (fun ls hl => ?_)
                      refine lv_goto (tgt := 26) hx hb dX4_share_102 (by decide) ?_
                      exact ih_26 (z + 1) _ _ _ (by first | assumption | omega) (by omega) hP hD hS (lv_sub hl [3, 2, 1, 4, 0] rfl)
                    · skip
                      have c6 := tkI_lt (by omega) c_16
                      have e2 : (it (scG (RB nk nc fo th tg T nt up) th (tkf T nt up) nt y) (z + 1) (it (fun i s => it (scG (RB nk nc fo th tg T nt up) th (tkf T nt up) nt i) nk s) y 0)) = (it (scG (RB nk nc fo th tg T nt up) th (tkf T nt up) nt y) z (it (fun i s => it (scG (RB nk nc fo th tg T nt up) th (tkf T nt up) nt i) nk s) y 0)) + 1 := by first | (simp only [it, scG]; simp [*]; done) | exact absurd (c8.symm.trans c7) (by decide)
                      refine lv_iconst (v := 1) hx hb dX4_share_92 (by decide) ?_
                      refine lv_goto (tgt := 97) hx hb dX4_share_93 (by decide) ?_
                      refine lv_iadd hx hb dX4_share_97 ?_
                      refine zz_top (y := nI ((it (scG (RB nk nc fo th tg T nt up) th (tkf T nt up) nt y) z (it (fun i s => it (scG (RB nk nc fo th tg T nt up) th (tkf T nt up) nt i) nk s) y 0)) + 1)) (nI_add _ _) ?_
                      refine zz_top (y := nI (it (scG (RB nk nc fo th tg T nt up) th (tkf T nt up) nt y) (z + 1) (it (fun i s => it (scG (RB nk nc fo th tg T nt up) th (tkf T nt up) nt i) nk s) y 0))) (by first | (rw [e2]; done) | (rw [e2]; rfl)) ?_
                      refine lv_istore_n (lv' := [(2, .int (nI (it (scG (RB nk nc fo th tg T nt up) th (tkf T nt up) nt y) (z + 1) (it (fun i s => it (scG (RB nk nc fo th tg T nt up) th (tkf T nt up) nt i) nk s) y 0)))), (1, .int (nI (it (saG (RB nk nc fo th tg T nt up) th y) (z + 1) (it (fun i s => it (saG (RB nk nc fo th tg T nt up) th i) nk s) y 0)))), (0, .ref (b 0)), (3, .int (nI y)), (4, .int (nI z))]) hx hb dX4_share_98 rfl hl (by decide) rfl (fun ls hl => ?_)
                      refine lv_iinc (v := nI (z + 1)) (lv' := [(4, .int (nI (z + 1))), (2, .int (nI (it (scG (RB nk nc fo th tg T nt up) th (tkf T nt up) nt y) (z + 1) (it (fun i s => it (scG (RB nk nc fo th tg T nt up) th (tkf T nt up) nt i) nk s) y 0)))), (1, .int (nI (it (saG (RB nk nc fo th tg T nt up) th y) (z + 1) (it (fun i s => it (saG (RB nk nc fo th tg T nt up) th i) nk s) y 0)))), (0, .ref (b 0)), (3, .int (nI y))]) hx hb dX4_share_99 hl (k := 4) rfl (zz_inc z 1) (by decide) rfl (fun ls hl => ?_)
                      refine lv_goto (tgt := 26) hx hb dX4_share_102 (by decide) ?_
                      exact ih_26 (z + 1) _ _ _ (by first | assumption | omega) (by omega) hP hD hS (lv_sub hl [3, 2, 1, 4, 0] rfl)
        exact J_26 _ 0 _ _ _ (by first | assumption | omega) (Nat.lt_succ_self _) hP hD hS (lv_sub hl [1, 2, 3, 4, 0] rfl)
  exact J_15 _ 0 _ _ _ (by first | assumption | omega) (Nat.lt_succ_self _) hP hD hS (lv_sub hl [3, 2, 1, 0] rfl)

set_option maxHeartbeats 4000000 in
set_option maxRecDepth 100000 in
theorem c_X4_digest (l : Launch) (dC : Nat → ClassId) (dI : Nat → Nat → Nat) (cI cZ cJ : ClassId) (b : Nat → Nat) (tw : Int32) (nk : Nat) (pa : Nat → Int32) (nc : Nat) (fo : Nat → Int32) (th : Nat → Int32) (tg : Nat → Int32) (nt : Nat) (tb : Nat → Int32) (te : Nat → Int32) (tk : Nat → Int32) (tt : Nat → Int32) (ex : Int32) (tc : Int32) (es : Int32) (wy : Int64) (ab : Nat → Int32) (re : Nat → Int32) (go : Nat → Int32) (be : Nat → Int32) (T : Nat → Nat → Nat) (up : Nat → Nat → Bool) (sz : Nat) (hg : g4 nk ab up nt tb te tk tt T) (hc : okC nk nc fo th tg) : Met l yX4_digest wsX4_digest ({ frames := 0, cells := 0, slots := 0, locals := 0 } : Room) (va_Pc [.ref (b 0)] (zWr (dC, dI) [(cI, .int), (cZ, .boolean), (cJ, .long)] (w4 b cI cZ tw nk pa nc fo th tg nt tb te tk tt ex tc es wy ab re go be) sz)) (va_Ql (fun (r : Int64) (_ : Unit) => r = dgA nk pa nc fo th tg nt T ex tc es) (fun _ t => zWo (dC, dI) [(cI, .int), (cZ, .boolean), (cJ, .long)] (w4 b cI cZ 0 nk pa nc fo th tg nt tb te tk tt ex tc es wy ab re go be) (va_A (w4 b cI cZ tw nk pa nc fo th tg nt tb te tk tt ex tc es wy ab re go be) sz) t) (va_A (w4 b cI cZ tw nk pa nc fo th tg nt tb te tk tt ex tc es wy ab re go be) sz)) 0 0 (va_A (w4 b cI cZ tw nk pa nc fo th tg nt tb te tk tt ex tc es wy ab re go be) sz) := by
  refine Met.ofW (cc := cX4_digest) (maxL := 4) (ret := (some .long)) (by decide) rfl ?_
  intro p e s m args below meth c s₁ B hml hv
  obtain ⟨hav, hsz, ⟨hP, hK, hn⟩, hD0⟩ := hv
  have hx := B.exec
  have hb := B.bytes
  have hr := B.returns
  have hts := atoms_spec (ws := wsX4_digest) B.pre
  have hown : s.vm.findClass RX4 = some m.cls := findClass_of_methodNamed B.named
  have hlocks := B.notSynchronized
  subst hsz
  have hD := hD0.self (sz := s.heap.size)
  generalize hAe : (va_A (w4 b cI cZ tw nk pa nc fo th tg nt tb te tk tt ex tc es wy ab re go be) s.heap.size) = A at hD ⊢
  have hA : ∀ q : Nat, s.heap.size ≤ q → A q := fun q h => by rw [← hAe]; exact Or.inr h
  have hS : va_S A s.heap s.heap [] := va_S.rf
  generalize hQ : MQ below (va_Ql (fun (r : Int64) (_ : Unit) => r = dgA nk pa nc fo th tg nt T ex tc es) (fun _ t => zWo (dC, dI) [(cI, .int), (cZ, .boolean), (cJ, .long)] (w4 b cI cZ 0 nk pa nc fo th tg nt tb te tk tt ex tc es wy ab re go be) A t) A) args s 0 0 A = Q
  refine W.eq (g2 := entryFrame m ([.ref (b 0)] : List Value).toArray 4) (by rw [hav]) ?_
  have hl := lv_entry ([.ref (b 0)]) (n := 4) (Nat.le_of_ble_eq_true rfl)
  rw [lg_entry_eq]
  generalize (lg_sl ([.ref (b 0)]) ++ List.replicate (4 - (lg_sl ([.ref (b 0)])).length) Slot.unset).toArray = ls at hl ⊢
  have hl : lv_has ls 4 [(0, .ref (b 0))] := hl
  obtain ⟨H, hH⟩ : ∃ H, H = s.heap := ⟨_, rfl⟩
  obtain ⟨locs, hlo⟩ : ∃ q : List Loc, q = [] := ⟨_, rfl⟩
  have hP : va_P (dC, dI) vwCl (w4 b cI cZ tw nk pa nc fo th tg nt tb te tk tt ex tc es wy ab re go be) H := by rw [hH]; exact hP
  have hS : va_S A s.heap H locs := by rw [hH, hlo]; exact hS
  refine zz_hl hH hlo ?_
  obtain ⟨hk01, hk8, hnt, hT, hO, hF, hU⟩ := id hg
  obtain ⟨hnc, hC⟩ := id hc
  refine lv_aload_n hx hb dX4_digest_0 rfl (lv_at hl 0 rfl) ?_
  refine lv_iconst (v := 0) hx hb dX4_digest_1 (by decide) ?_
  refine va_put (D := (dC, dI)) (ci := 4) (v := .int 0) (ty := .int) (C := RX4) (T := TX4) (N := 20) hx hb hts (by decide +kernel) tyX4 tyX4_ok nmX4 hown hK hP hD hS 0 rfl rfl 0 (by decide) (hts (.fieldLink RX4 54 "HandlerOptimizerModel" "thrown" "I") (by decide +kernel)) (fun _ h9 => h9) rfl (by decide +kernel) rfl rfl (Nat.le_of_ble_eq_true rfl) dX4_digest_2 (fun H locs hP hD hS => ?_)
  have hP : va_P (dC, dI) vwCl (w4 b cI cZ 0 nk pa nc fo th tg nt tb te tk tt ex tc es wy ab re go be) H := hP
  have hD : va_D A (w4 b cI cZ 0 nk pa nc fo th tg nt tb te tk tt ex tc es wy ab re go be) := hD
  refine lv_ldc2 (own := RX4) (v := 4247) hx hb hown (hts (.constantLong RX4 177 4247) (by decide +kernel)) dX4_digest_5 ?_
  refine lv_aload_n hx hb dX4_digest_8 rfl (lv_at hl 0 rfl) ?_
  refine va_get (D := (dC, dI)) (ci := 4) (v := .int (nI nk)) (C := RX4) (T := TX4) (N := 20) hx hb hts (by decide +kernel) hown hK hP 0 rfl rfl 1 (by decide) (hts (.fieldLink RX4 7 "HandlerOptimizerModel" "kinds" "I") (by decide +kernel)) (fun _ h9 => h9) rfl dX4_digest_9 ?_
  refine lv_i2l (v := (nI nk).toInt64) hx hb dX4_digest_12 rfl ?_
  refine lv_ladd hx hb dX4_digest_13 ?_
  refine lv_lstore_n (lv' := [(1, .long (4247 + ((nI nk).toInt64))), (0, .ref (b 0))]) hx hb dX4_digest_14 rfl hl (by decide) rfl (fun ls hl => ?_)
  refine lv_iconst (v := 1) hx hb dX4_digest_15 (by decide) ?_
  refine lv_istore_n (lv' := [(3, .int 1), (1, .long (4247 + ((nI nk).toInt64))), (0, .ref (b 0))]) hx hb dX4_digest_16 rfl hl (by decide) rfl (fun ls hl => ?_)
  have J_17 : ∀ (n9 : Nat) (y : Nat) (d : Int64) (H : Heap) (locs : List Loc) (ls : Array Slot), (y + 1 ≤ nk) → (d = it (fun j (d : Int64) => d * 31 + (pa (j + 1)).toInt64) y (137 * 31 + (nI nk).toInt64)) → nk - y < n9 → va_P (dC, dI) vwCl (w4 b cI cZ 0 nk pa nc fo th tg nt tb te tk tt ex tc es wy ab re go be) H → va_D A (w4 b cI cZ 0 nk pa nc fo th tg nt tb te tk tt ex tc es wy ab re go be) → va_S A s.heap H locs → lv_has ls 4 [(0, .ref (b 0)), (1, .long d), (3, .int (nI (y + 1)))] → W p l e (headSpec wsX4_digest ({ frames := 0, cells := 0, slots := 0, locals := 0 } : Room)).room s m args below meth c H locs 0 0 Q (F0 m 17 ls []) := by
    intro n9
    induction n9 with
    | zero => intro y d H locs ls hy hd hmu; exact absurd hmu (Nat.not_lt_zero _)
    | succ n9 ih_17 =>
      intro y d H locs ls hy hd hmu hP hD hS hl
      refine lv_iload_n hx hb dX4_digest_17 rfl (lv_at hl 2 rfl) ?_
      refine lv_aload_n hx hb dX4_digest_18 rfl (lv_at hl 0 rfl) ?_
      refine va_get (D := (dC, dI)) (ci := 4) (v := .int (nI nk)) (C := RX4) (T := TX4) (N := 20) hx hb hts (by decide +kernel) hown hK hP 0 rfl rfl 1 (by decide) (hts (.fieldLink RX4 7 "HandlerOptimizerModel" "kinds" "I") (by decide +kernel)) (fun _ h9 => h9) rfl dX4_digest_19 ?_
      refine lv_icmp_ge (tgt := 45) hx hb dX4_digest_22 (by decide) (fun c_1 => ?_) (fun c_1 => ?_)
      · skip
        have c_1 := (zz_get (a := y + 1) (b := nk) (by omega) (by omega)).mp c_1
        refine lv_lload_n hx hb dX4_digest_45 rfl (lv_at hl 1 rfl) ?_
        refine lv_ldc2 (own := RX4) (v := 31) hx hb hown (hts (.constantLong RX4 168 31) (by decide +kernel)) dX4_digest_46 ?_
        refine lv_lmul hx hb dX4_digest_49 ?_
        refine lv_aload_n hx hb dX4_digest_50 rfl (lv_at hl 0 rfl) ?_
        refine va_get (D := (dC, dI)) (ci := 4) (v := .int (nI nc)) (C := RX4) (T := TX4) (N := 20) hx hb hts (by decide +kernel) hown hK hP 0 rfl rfl 3 (by decide) (hts (.fieldLink RX4 61 "HandlerOptimizerModel" "size" "I") (by decide +kernel)) (fun _ h9 => h9) rfl dX4_digest_51 ?_
        refine lv_i2l (v := (nI nc).toInt64) hx hb dX4_digest_54 rfl ?_
        refine lv_ladd hx hb dX4_digest_55 ?_
        refine lv_lstore_n (lv' := [(1, .long ((d * 31) + ((nI nc).toInt64))), (0, .ref (b 0)), (3, .int (nI (y + 1)))]) hx hb dX4_digest_56 rfl hl (by decide) rfl (fun ls hl => ?_)
        refine lv_iconst (v := 0) hx hb dX4_digest_57 (by decide) ?_
        refine lv_istore_n (lv' := [(3, .int 0), (1, .long ((d * 31) + ((nI nc).toInt64))), (0, .ref (b 0))]) hx hb dX4_digest_58 rfl hl (by decide) rfl (fun ls hl => ?_)
        have J_59 : ∀ (n9 : Nat) (y2 : Nat) (d2 : Int64) (H : Heap) (locs : List Loc) (ls : Array Slot), (y2 ≤ nc) → (d2 = it (fun i (d : Int64) => ((d * 31 + (fo i).toInt64) * 31 + (th i).toInt64) * 31 + (tg i).toInt64) y2 (dgK pa nk (137 * 31 + (nI nk).toInt64) * 31 + (nI nc).toInt64)) → nc - y2 < n9 → va_P (dC, dI) vwCl (w4 b cI cZ 0 nk pa nc fo th tg nt tb te tk tt ex tc es wy ab re go be) H → va_D A (w4 b cI cZ 0 nk pa nc fo th tg nt tb te tk tt ex tc es wy ab re go be) → va_S A s.heap H locs → lv_has ls 4 [(0, .ref (b 0)), (1, .long d2), (3, .int (nI y2))] → W p l e (headSpec wsX4_digest ({ frames := 0, cells := 0, slots := 0, locals := 0 } : Room)).room s m args below meth c H locs 0 0 Q (F0 m 59 ls []) := by
          intro n9
          induction n9 with
          | zero => intro y2 d2 H locs ls hy2 hd2 hmu; exact absurd hmu (Nat.not_lt_zero _)
          | succ n9 ih_59 =>
            intro y2 d2 H locs ls hy2 hd2 hmu hP hD hS hl
            refine lv_iload_n hx hb dX4_digest_59 rfl (lv_at hl 2 rfl) ?_
            refine lv_aload_n hx hb dX4_digest_60 rfl (lv_at hl 0 rfl) ?_
            refine va_get (D := (dC, dI)) (ci := 4) (v := .int (nI nc)) (C := RX4) (T := TX4) (N := 20) hx hb hts (by decide +kernel) hown hK hP 0 rfl rfl 3 (by decide) (hts (.fieldLink RX4 61 "HandlerOptimizerModel" "size" "I") (by decide +kernel)) (fun _ h9 => h9) rfl dX4_digest_61 ?_
            refine lv_icmp_ge (tgt := 111) hx hb dX4_digest_64 (by decide) (fun c_2 => ?_) (fun c_2 => ?_)
            · skip
              have c_2 := (zz_get (a := y2) (b := nc) (by omega) (by omega)).mp c_2
              refine lv_lload_n hx hb dX4_digest_111 rfl (lv_at hl 1 rfl) ?_
              refine lv_ldc2 (own := RX4) (v := 31) hx hb hown (hts (.constantLong RX4 168 31) (by decide +kernel)) dX4_digest_112 ?_
              refine lv_lmul hx hb dX4_digest_115 ?_
              refine lv_aload_n hx hb dX4_digest_116 rfl (lv_at hl 0 rfl) ?_
              refine va_get (D := (dC, dI)) (ci := 4) (v := .int (nI nt)) (C := RX4) (T := TX4) (N := 20) hx hb hts (by decide +kernel) hown hK hP 0 rfl rfl 7 (by decide) (hts (.fieldLink RX4 64 "HandlerOptimizerModel" "entries" "I") (by decide +kernel)) (fun _ h9 => h9) rfl dX4_digest_117 ?_
              refine lv_i2l (v := (nI nt).toInt64) hx hb dX4_digest_120 rfl ?_
              refine lv_ladd hx hb dX4_digest_121 ?_
              refine lv_lstore_n (lv' := [(1, .long ((d2 * 31) + ((nI nt).toInt64))), (0, .ref (b 0)), (3, .int (nI y2))]) hx hb dX4_digest_122 rfl hl (by decide) rfl (fun ls hl => ?_)
              refine lv_iconst (v := 0) hx hb dX4_digest_123 (by decide) ?_
              refine lv_istore_n (lv' := [(3, .int 0), (1, .long ((d2 * 31) + ((nI nt).toInt64))), (0, .ref (b 0))]) hx hb dX4_digest_124 rfl hl (by decide) rfl (fun ls hl => ?_)
              have J_125 : ∀ (n9 : Nat) (y3 : Nat) (d3 : Int64) (H : Heap) (locs : List Loc) (ls : Array Slot), (y3 ≤ nt) → (d3 = it (fun e (d : Int64) => (((d * 31 + (nI (T 0 e)).toInt64) * 31 + (nI (T 1 e)).toInt64) * 31 + (nI (T 2 e)).toInt64) * 31 + (nI (T 3 e)).toInt64) y3 (dgC fo th tg nc (dgK pa nk (137 * 31 + (nI nk).toInt64) * 31 + (nI nc).toInt64) * 31 + (nI nt).toInt64)) → nt - y3 < n9 → va_P (dC, dI) vwCl (w4 b cI cZ 0 nk pa nc fo th tg nt tb te tk tt ex tc es wy ab re go be) H → va_D A (w4 b cI cZ 0 nk pa nc fo th tg nt tb te tk tt ex tc es wy ab re go be) → va_S A s.heap H locs → lv_has ls 4 [(0, .ref (b 0)), (1, .long d3), (3, .int (nI y3))] → W p l e (headSpec wsX4_digest ({ frames := 0, cells := 0, slots := 0, locals := 0 } : Room)).room s m args below meth c H locs 0 0 Q (F0 m 125 ls []) := by
                intro n9
                induction n9 with
                | zero => intro y3 d3 H locs ls hy3 hd3 hmu; exact absurd hmu (Nat.not_lt_zero _)
                | succ n9 ih_125 =>
                  intro y3 d3 H locs ls hy3 hd3 hmu hP hD hS hl
                  refine lv_iload_n hx hb dX4_digest_125 rfl (lv_at hl 2 rfl) ?_
                  refine lv_aload_n hx hb dX4_digest_126 rfl (lv_at hl 0 rfl) ?_
                  refine va_get (D := (dC, dI)) (ci := 4) (v := .int (nI nt)) (C := RX4) (T := TX4) (N := 20) hx hb hts (by decide +kernel) hown hK hP 0 rfl rfl 7 (by decide) (hts (.fieldLink RX4 64 "HandlerOptimizerModel" "entries" "I") (by decide +kernel)) (fun _ h9 => h9) rfl dX4_digest_127 ?_
                  refine lv_icmp_ge (tgt := 189) hx hb dX4_digest_130 (by decide) (fun c_3 => ?_) (fun c_3 => ?_)
                  · skip
                    have c_3 := (zz_get (a := y3) (b := nt) (by omega) (by omega)).mp c_3
                    refine lv_lload_n hx hb dX4_digest_189 rfl (lv_at hl 1 rfl) ?_
                    refine lv_ldc2 (own := RX4) (v := 31) hx hb hown (hts (.constantLong RX4 168 31) (by decide +kernel)) dX4_digest_190 ?_
                    refine lv_lmul hx hb dX4_digest_193 ?_
                    refine lv_aload_n hx hb dX4_digest_194 rfl (lv_at hl 0 rfl) ?_
                    refine va_get (D := (dC, dI)) (ci := 4) (v := .int ex) (C := RX4) (T := TX4) (N := 20) hx hb hts (by decide +kernel) hown hK hP 0 rfl rfl 12 (by decide) (hts (.fieldLink RX4 156 "HandlerOptimizerModel" "executed" "I") (by decide +kernel)) (fun _ h9 => h9) rfl dX4_digest_195 ?_
                    refine lv_i2l (v := ex.toInt64) hx hb dX4_digest_198 rfl ?_
                    refine lv_ladd hx hb dX4_digest_199 ?_
                    refine lv_ldc2 (own := RX4) (v := 31) hx hb hown (hts (.constantLong RX4 168 31) (by decide +kernel)) dX4_digest_200 ?_
                    refine lv_lmul hx hb dX4_digest_203 ?_
                    refine lv_aload_n hx hb dX4_digest_204 rfl (lv_at hl 0 rfl) ?_
                    refine va_get (D := (dC, dI)) (ci := 4) (v := .int tc) (C := RX4) (T := TX4) (N := 20) hx hb hts (by decide +kernel) hown hK hP 0 rfl rfl 13 (by decide) (hts (.fieldLink RX4 159 "HandlerOptimizerModel" "taken" "I") (by decide +kernel)) (fun _ h9 => h9) rfl dX4_digest_205 ?_
                    refine lv_i2l (v := tc.toInt64) hx hb dX4_digest_208 rfl ?_
                    refine lv_ladd hx hb dX4_digest_209 ?_
                    refine lv_ldc2 (own := RX4) (v := 31) hx hb hown (hts (.constantLong RX4 168 31) (by decide +kernel)) dX4_digest_210 ?_
                    refine lv_lmul hx hb dX4_digest_213 ?_
                    refine lv_aload_n hx hb dX4_digest_214 rfl (lv_at hl 0 rfl) ?_
                    refine va_get (D := (dC, dI)) (ci := 4) (v := .int es) (C := RX4) (T := TX4) (N := 20) hx hb hts (by decide +kernel) hown hK hP 0 rfl rfl 14 (by decide) (hts (.fieldLink RX4 38 "HandlerOptimizerModel" "escaped" "I") (by decide +kernel)) (fun _ h9 => h9) rfl dX4_digest_215 ?_
                    refine lv_i2l (v := es.toInt64) hx hb dX4_digest_218 rfl ?_
                    refine lv_ladd hx hb dX4_digest_219 ?_
                    rw [← hQ]
                    have hP9 := hP
                    have hD9 := hD
                    exact W.lret (v := (((((d3 * 31) + ex.toInt64) * 31) + tc.toInt64) * 31) + es.toInt64) hx hb hr (fun t ht hW => ⟨⟨(((((d3 * 31) + ex.toInt64) * 31) + tc.toInt64) * 31) + es.toInt64, (), rfl, (by rw [hd3, show y3 = nt from by omega]; rfl), (by rw [ht]; exact hP9), va_K.moved hW.alike hK, hD9⟩, hS.F ht⟩) hS.2.2 dX4_digest_220
                  · skip
                    have c_3 := (zz_gef (a := y3) (b := nt) (by omega) (by omega)).mp c_3
                    refine lv_lload_n hx hb dX4_digest_133 rfl (lv_at hl 1 rfl) ?_
                    refine lv_ldc2 (own := RX4) (v := 31) hx hb hown (hts (.constantLong RX4 168 31) (by decide +kernel)) dX4_digest_134 ?_
                    refine lv_lmul hx hb dX4_digest_137 ?_
                    refine lv_aload_n hx hb dX4_digest_138 rfl (lv_at hl 0 rfl) ?_
                    refine va_get (D := (dC, dI)) (ci := 4) (v := .ref (b 5)) (C := RX4) (T := TX4) (N := 20) hx hb hts (by decide +kernel) hown hK hP 0 rfl rfl 8 (by decide) (hts (.fieldLink RX4 26 "HandlerOptimizerModel" "froms" "[I") (by decide +kernel)) (fun _ h9 => h9) rfl dX4_digest_139 ?_
                    refine lv_iload_n hx hb dX4_digest_142 rfl (lv_at hl 2 rfl) ?_
                    refine va_iald hx hb hK hP 5 0 rfl rfl (vp_in_nI (n := y3) (by omega) (by decide)) dX4_digest_143 ?_
                    refine zz_top (y := tb y3) (congrArg _ (nI_clamp (by omega))) ?_
                    refine zz_top (y := nI (T 0 y3)) ((hT y3 (by omega)).1) ?_
                    refine lv_i2l (v := (nI (T 0 y3)).toInt64) hx hb dX4_digest_144 rfl ?_
                    refine lv_ladd hx hb dX4_digest_145 ?_
                    refine lv_ldc2 (own := RX4) (v := 31) hx hb hown (hts (.constantLong RX4 168 31) (by decide +kernel)) dX4_digest_146 ?_
                    refine lv_lmul hx hb dX4_digest_149 ?_
                    refine lv_aload_n hx hb dX4_digest_150 rfl (lv_at hl 0 rfl) ?_
                    refine va_get (D := (dC, dI)) (ci := 4) (v := .ref (b 6)) (C := RX4) (T := TX4) (N := 20) hx hb hts (by decide +kernel) hown hK hP 0 rfl rfl 9 (by decide) (hts (.fieldLink RX4 29 "HandlerOptimizerModel" "tos" "[I") (by decide +kernel)) (fun _ h9 => h9) rfl dX4_digest_151 ?_
                    refine lv_iload_n hx hb dX4_digest_154 rfl (lv_at hl 2 rfl) ?_
                    refine va_iald hx hb hK hP 6 0 rfl rfl (vp_in_nI (n := y3) (by omega) (by decide)) dX4_digest_155 ?_
                    refine zz_top (y := te y3) (congrArg _ (nI_clamp (by omega))) ?_
                    refine zz_top (y := nI (T 1 y3)) ((hT y3 (by omega)).2.1) ?_
                    refine lv_i2l (v := (nI (T 1 y3)).toInt64) hx hb dX4_digest_156 rfl ?_
                    refine lv_ladd hx hb dX4_digest_157 ?_
                    refine lv_ldc2 (own := RX4) (v := 31) hx hb hown (hts (.constantLong RX4 168 31) (by decide +kernel)) dX4_digest_158 ?_
                    refine lv_lmul hx hb dX4_digest_161 ?_
                    refine lv_aload_n hx hb dX4_digest_162 rfl (lv_at hl 0 rfl) ?_
                    refine va_get (D := (dC, dI)) (ci := 4) (v := .ref (b 7)) (C := RX4) (T := TX4) (N := 20) hx hb hts (by decide +kernel) hown hK hP 0 rfl rfl 10 (by decide) (hts (.fieldLink RX4 32 "HandlerOptimizerModel" "entryKinds" "[I") (by decide +kernel)) (fun _ h9 => h9) rfl dX4_digest_163 ?_
                    refine lv_iload_n hx hb dX4_digest_166 rfl (lv_at hl 2 rfl) ?_
                    refine va_iald hx hb hK hP 7 0 rfl rfl (vp_in_nI (n := y3) (by omega) (by decide)) dX4_digest_167 ?_
                    refine zz_top (y := tk y3) (congrArg _ (nI_clamp (by omega))) ?_
                    refine zz_top (y := nI (T 2 y3)) ((hT y3 (by omega)).2.2.1) ?_
                    refine lv_i2l (v := (nI (T 2 y3)).toInt64) hx hb dX4_digest_168 rfl ?_
                    refine lv_ladd hx hb dX4_digest_169 ?_
                    refine lv_ldc2 (own := RX4) (v := 31) hx hb hown (hts (.constantLong RX4 168 31) (by decide +kernel)) dX4_digest_170 ?_
                    refine lv_lmul hx hb dX4_digest_173 ?_
                    refine lv_aload_n hx hb dX4_digest_174 rfl (lv_at hl 0 rfl) ?_
                    refine va_get (D := (dC, dI)) (ci := 4) (v := .ref (b 8)) (C := RX4) (T := TX4) (N := 20) hx hb hts (by decide +kernel) hown hK hP 0 rfl rfl 11 (by decide) (hts (.fieldLink RX4 35 "HandlerOptimizerModel" "entryTargets" "[I") (by decide +kernel)) (fun _ h9 => h9) rfl dX4_digest_175 ?_
                    refine lv_iload_n hx hb dX4_digest_178 rfl (lv_at hl 2 rfl) ?_
                    refine va_iald hx hb hK hP 8 0 rfl rfl (vp_in_nI (n := y3) (by omega) (by decide)) dX4_digest_179 ?_
                    refine zz_top (y := tt y3) (congrArg _ (nI_clamp (by omega))) ?_
                    refine zz_top (y := nI (T 3 y3)) ((hT y3 (by omega)).2.2.2) ?_
                    refine lv_i2l (v := (nI (T 3 y3)).toInt64) hx hb dX4_digest_180 rfl ?_
                    refine lv_ladd hx hb dX4_digest_181 ?_
                    refine lv_lstore_n (lv' := [(1, .long ((((((((d3 * 31) + ((nI (T 0 y3)).toInt64)) * 31) + ((nI (T 1 y3)).toInt64)) * 31) + ((nI (T 2 y3)).toInt64)) * 31) + ((nI (T 3 y3)).toInt64))), (0, .ref (b 0)), (3, .int (nI y3))]) hx hb dX4_digest_182 rfl hl (by decide) rfl (fun ls hl => ?_)
                    refine lv_iinc (v := nI (y3 + 1)) (lv' := [(3, .int (nI (y3 + 1))), (1, .long ((((((((d3 * 31) + ((nI (T 0 y3)).toInt64)) * 31) + ((nI (T 1 y3)).toInt64)) * 31) + ((nI (T 2 y3)).toInt64)) * 31) + ((nI (T 3 y3)).toInt64))), (0, .ref (b 0))]) hx hb dX4_digest_183 hl (k := 2) rfl (zz_inc y3 1) (by decide) rfl (fun ls hl => ?_)
                    refine lv_goto (tgt := 125) hx hb dX4_digest_186 (by decide) ?_
                    exact ih_125 (y3 + 1) ((((((((d3 * 31) + ((nI (T 0 y3)).toInt64)) * 31) + ((nI (T 1 y3)).toInt64)) * 31) + ((nI (T 2 y3)).toInt64)) * 31) + ((nI (T 3 y3)).toInt64)) _ _ _ (by first | assumption | omega) (by rw [hd3]; rfl) (by omega) hP hD hS (lv_sub hl [2, 1, 0] rfl)
              exact J_125 _ 0 ((d2 * 31) + ((nI nt).toInt64)) _ _ _ (by first | assumption | omega) (by rw [hd2, show y2 = nc from by omega]; rfl) (Nat.lt_succ_self _) hP hD hS (lv_sub hl [2, 1, 0] rfl)
            · skip
              have c_2 := (zz_gef (a := y2) (b := nc) (by omega) (by omega)).mp c_2
              refine lv_lload_n hx hb dX4_digest_67 rfl (lv_at hl 1 rfl) ?_
              refine lv_ldc2 (own := RX4) (v := 31) hx hb hown (hts (.constantLong RX4 168 31) (by decide +kernel)) dX4_digest_68 ?_
              refine lv_lmul hx hb dX4_digest_71 ?_
              refine lv_aload_n hx hb dX4_digest_72 rfl (lv_at hl 0 rfl) ?_
              refine va_get (D := (dC, dI)) (ci := 4) (v := .ref (b 2)) (C := RX4) (T := TX4) (N := 20) hx hb hts (by decide +kernel) hown hK hP 0 rfl rfl 4 (by decide) (hts (.fieldLink RX4 17 "HandlerOptimizerModel" "forms" "[I") (by decide +kernel)) (fun _ h9 => h9) rfl dX4_digest_73 ?_
              refine lv_iload_n hx hb dX4_digest_76 rfl (lv_at hl 2 rfl) ?_
              refine va_iald hx hb hK hP 2 0 rfl rfl (vp_in_nI (n := y2) (by omega) (by decide)) dX4_digest_77 ?_
              refine zz_top (y := fo y2) (congrArg _ (nI_clamp (by omega))) ?_
              refine lv_i2l (v := (fo y2).toInt64) hx hb dX4_digest_78 rfl ?_
              refine lv_ladd hx hb dX4_digest_79 ?_
              refine lv_ldc2 (own := RX4) (v := 31) hx hb hown (hts (.constantLong RX4 168 31) (by decide +kernel)) dX4_digest_80 ?_
              refine lv_lmul hx hb dX4_digest_83 ?_
              refine lv_aload_n hx hb dX4_digest_84 rfl (lv_at hl 0 rfl) ?_
              refine va_get (D := (dC, dI)) (ci := 4) (v := .ref (b 3)) (C := RX4) (T := TX4) (N := 20) hx hb hts (by decide +kernel) hown hK hP 0 rfl rfl 5 (by decide) (hts (.fieldLink RX4 20 "HandlerOptimizerModel" "errors" "[I") (by decide +kernel)) (fun _ h9 => h9) rfl dX4_digest_85 ?_
              refine lv_iload_n hx hb dX4_digest_88 rfl (lv_at hl 2 rfl) ?_
              refine va_iald hx hb hK hP 3 0 rfl rfl (vp_in_nI (n := y2) (by omega) (by decide)) dX4_digest_89 ?_
              refine zz_top (y := th y2) (congrArg _ (nI_clamp (by omega))) ?_
              refine lv_i2l (v := (th y2).toInt64) hx hb dX4_digest_90 rfl ?_
              refine lv_ladd hx hb dX4_digest_91 ?_
              refine lv_ldc2 (own := RX4) (v := 31) hx hb hown (hts (.constantLong RX4 168 31) (by decide +kernel)) dX4_digest_92 ?_
              refine lv_lmul hx hb dX4_digest_95 ?_
              refine lv_aload_n hx hb dX4_digest_96 rfl (lv_at hl 0 rfl) ?_
              refine va_get (D := (dC, dI)) (ci := 4) (v := .ref (b 4)) (C := RX4) (T := TX4) (N := 20) hx hb hts (by decide +kernel) hown hK hP 0 rfl rfl 6 (by decide) (hts (.fieldLink RX4 23 "HandlerOptimizerModel" "targets" "[I") (by decide +kernel)) (fun _ h9 => h9) rfl dX4_digest_97 ?_
              refine lv_iload_n hx hb dX4_digest_100 rfl (lv_at hl 2 rfl) ?_
              refine va_iald hx hb hK hP 4 0 rfl rfl (vp_in_nI (n := y2) (by omega) (by decide)) dX4_digest_101 ?_
              refine zz_top (y := tg y2) (congrArg _ (nI_clamp (by omega))) ?_
              refine lv_i2l (v := (tg y2).toInt64) hx hb dX4_digest_102 rfl ?_
              refine lv_ladd hx hb dX4_digest_103 ?_
              refine lv_lstore_n (lv' := [(1, .long ((((((d2 * 31) + ((fo y2).toInt64)) * 31) + ((th y2).toInt64)) * 31) + ((tg y2).toInt64))), (0, .ref (b 0)), (3, .int (nI y2))]) hx hb dX4_digest_104 rfl hl (by decide) rfl (fun ls hl => ?_)
              refine lv_iinc (v := nI (y2 + 1)) (lv' := [(3, .int (nI (y2 + 1))), (1, .long ((((((d2 * 31) + ((fo y2).toInt64)) * 31) + ((th y2).toInt64)) * 31) + ((tg y2).toInt64))), (0, .ref (b 0))]) hx hb dX4_digest_105 hl (k := 2) rfl (zz_inc y2 1) (by decide) rfl (fun ls hl => ?_)
              refine lv_goto (tgt := 59) hx hb dX4_digest_108 (by decide) ?_
              exact ih_59 (y2 + 1) ((((((d2 * 31) + ((fo y2).toInt64)) * 31) + ((th y2).toInt64)) * 31) + ((tg y2).toInt64)) _ _ _ (by first | assumption | omega) (by rw [hd2]; rfl) (by omega) hP hD hS (lv_sub hl [2, 1, 0] rfl)
        exact J_59 _ 0 ((d * 31) + ((nI nc).toInt64)) _ _ _ (by first | assumption | omega) (by rw [hd, show y = nk - 1 from by omega]; rfl) (Nat.lt_succ_self _) hP hD hS (lv_sub hl [2, 1, 0] rfl)
      · skip
        have c_1 := (zz_gef (a := y + 1) (b := nk) (by omega) (by omega)).mp c_1
        refine lv_lload_n hx hb dX4_digest_25 rfl (lv_at hl 1 rfl) ?_
        refine lv_ldc2 (own := RX4) (v := 31) hx hb hown (hts (.constantLong RX4 168 31) (by decide +kernel)) dX4_digest_26 ?_
        refine lv_lmul hx hb dX4_digest_29 ?_
        refine lv_aload_n hx hb dX4_digest_30 rfl (lv_at hl 0 rfl) ?_
        refine va_get (D := (dC, dI)) (ci := 4) (v := .ref (b 1)) (C := RX4) (T := TX4) (N := 20) hx hb hts (by decide +kernel) hown hK hP 0 rfl rfl 2 (by decide) (hts (.fieldLink RX4 13 "HandlerOptimizerModel" "parents" "[I") (by decide +kernel)) (fun _ h9 => h9) rfl dX4_digest_31 ?_
        refine lv_iload_n hx hb dX4_digest_34 rfl (lv_at hl 2 rfl) ?_
        refine va_iald hx hb hK hP 1 0 rfl rfl (vp_in_nI (n := y + 1) (by omega) (by decide)) dX4_digest_35 ?_
        refine zz_top (y := pa (y + 1)) (congrArg _ (nI_clamp (by omega))) ?_
        refine lv_i2l (v := (pa (y + 1)).toInt64) hx hb dX4_digest_36 rfl ?_
        refine lv_ladd hx hb dX4_digest_37 ?_
        refine lv_lstore_n (lv' := [(1, .long ((d * 31) + ((pa (y + 1)).toInt64))), (0, .ref (b 0)), (3, .int (nI (y + 1)))]) hx hb dX4_digest_38 rfl hl (by decide) rfl (fun ls hl => ?_)
        refine lv_iinc (v := nI (y + 1 + 1)) (lv' := [(3, .int (nI (y + 1 + 1))), (1, .long ((d * 31) + ((pa (y + 1)).toInt64))), (0, .ref (b 0))]) hx hb dX4_digest_39 hl (k := 2) rfl (zz_inc (y + 1) 1) (by decide) rfl (fun ls hl => ?_)
        refine lv_goto (tgt := 17) hx hb dX4_digest_42 (by decide) ?_
        exact ih_17 (y + 1) ((d * 31) + ((pa (y + 1)).toInt64)) _ _ _ (by first | assumption | omega) (by rw [hd]; rfl) (by omega) hP hD hS (lv_sub hl [2, 1, 0] rfl)
  exact J_17 _ 0 (4247 + ((nI nk).toInt64)) _ _ _ (by first | assumption | omega) rfl (Nat.lt_succ_self _) hP hD hS (lv_sub hl [2, 1, 0] rfl)

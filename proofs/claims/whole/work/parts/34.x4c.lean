set_option maxHeartbeats 4000000 in
set_option maxRecDepth 100000 in
theorem c_X4_dropAll (l : Launch) (dC : Nat → ClassId) (dI : Nat → Nat → Nat) (cI cZ cJ : ClassId) (b : Nat → Nat) (tw : Int32) (nk : Nat) (pa : Nat → Int32) (nc : Nat) (fo : Nat → Int32) (th : Nat → Int32) (tg : Nat → Int32) (nt : Nat) (tb : Nat → Int32) (te : Nat → Int32) (tk : Nat → Int32) (tt : Nat → Int32) (ex : Int32) (tc : Int32) (es : Int32) (wy : Int64) (ab : Nat → Int32) (re : Nat → Int32) (go : Nat → Int32) (be : Nat → Int32) (T : Nat → Nat → Nat) (up : Nat → Nat → Bool) (sz : Nat) (hg : g4 nk ab up nt tb te tk tt T) (hc : okC nk nc fo th tg) : Met l yX4_dropAll wsX4_dropAll ({ frames := 4, cells := 1, slots := 24, locals := 91 } : Room) (va_Pc [.ref (b 0)] (zWr (dC, dI) [(cI, .int), (cZ, .boolean), (cJ, .long)] (w4 b cI cZ tw nk pa nc fo th tg nt tb te tk tt ex tc es wy ab re go be) sz)) (va_Qi (fun (r : Int32) (u : (Nat → Int32) × Nat × (Nat → Int32) × (Nat → Int32) × (Nat → Int32) × (Nat → Int32)) => match u with | (re9, nt9, tb9, te9, tk9, tt9) => r = nI (nt - (dR nk nc fo th tg up (T, nt)).2) ∧ nt9 = (dR nk nc fo th tg up (T, nt)).2 ∧ g4 nk ab up nt9 tb9 te9 tk9 tt9 (dR nk nc fo th tg up (T, nt)).1) (fun u t => match u with | (re9, nt9, tb9, te9, tk9, tt9) => zWo (dC, dI) [(cI, .int), (cZ, .boolean), (cJ, .long)] (w4 b cI cZ tw nk pa nc fo th tg nt9 tb9 te9 tk9 tt9 ex tc es wy ab re9 go be) (va_A (w4 b cI cZ tw nk pa nc fo th tg nt tb te tk tt ex tc es wy ab re go be) sz) t) (va_A (w4 b cI cZ tw nk pa nc fo th tg nt tb te tk tt ex tc es wy ab re go be) sz)) 1 24 (va_A (w4 b cI cZ tw nk pa nc fo th tg nt tb te tk tt ex tc es wy ab re go be) sz) := by
  refine Met.ofW (cc := cX4_dropAll) (maxL := 4) (ret := (some .int)) (by decide) rfl ?_
  intro p e s m args below meth c s₁ B hml hv
  obtain ⟨hav, hsz, ⟨hP, hK, hn⟩, hD0⟩ := hv
  have hx := B.exec
  have hb := B.bytes
  have hr := B.returns
  have hts := atoms_spec (ws := wsX4_dropAll) B.pre
  have hown : s.vm.findClass RX4 = some m.cls := findClass_of_methodNamed B.named
  have hlocks := B.notSynchronized
  subst hsz
  have hD := hD0.self (sz := s.heap.size)
  generalize hAe : (va_A (w4 b cI cZ tw nk pa nc fo th tg nt tb te tk tt ex tc es wy ab re go be) s.heap.size) = A at hD ⊢
  have hA : ∀ q : Nat, s.heap.size ≤ q → A q := fun q h => by rw [← hAe]; exact Or.inr h
  have hS : va_S A s.heap s.heap [] := va_S.rf
  generalize hQ : MQ below (va_Qi (fun (r : Int32) (u : (Nat → Int32) × Nat × (Nat → Int32) × (Nat → Int32) × (Nat → Int32) × (Nat → Int32)) => match u with | (re9, nt9, tb9, te9, tk9, tt9) => r = nI (nt - (dR nk nc fo th tg up (T, nt)).2) ∧ nt9 = (dR nk nc fo th tg up (T, nt)).2 ∧ g4 nk ab up nt9 tb9 te9 tk9 tt9 (dR nk nc fo th tg up (T, nt)).1) (fun u t => match u with | (re9, nt9, tb9, te9, tk9, tt9) => zWo (dC, dI) [(cI, .int), (cZ, .boolean), (cJ, .long)] (w4 b cI cZ tw nk pa nc fo th tg nt9 tb9 te9 tk9 tt9 ex tc es wy ab re9 go be) A t) A) args s 1 24 A = Q
  refine W.eq (g2 := entryFrame m ([.ref (b 0)] : List Value).toArray 4) (by rw [hav]) ?_
  have hl := lv_entry ([.ref (b 0)]) (n := 4) (Nat.le_of_ble_eq_true rfl)
  rw [lg_entry_eq]
  generalize (lg_sl ([.ref (b 0)]) ++ List.replicate (4 - (lg_sl ([.ref (b 0)])).length) Slot.unset).toArray = ls at hl ⊢
  have hl : lv_has ls 4 [(0, .ref (b 0))] := hl
  obtain ⟨H, hH⟩ : ∃ H, H = s.heap := ⟨_, rfl⟩
  obtain ⟨locs, hlo⟩ : ∃ q : List Loc, q = [] := ⟨_, rfl⟩
  have hP : va_P (dC, dI) vwCl (w4 b cI cZ tw nk pa nc fo th tg nt tb te tk tt ex tc es wy ab re go be) H := by rw [hH]; exact hP
  have hS : va_S A s.heap H locs := by rw [hH, hlo]; exact hS
  refine zz_hl hH hlo ?_
  obtain ⟨hk01, hk8, hnt, hT, hO, hF, hU⟩ := id hg
  obtain ⟨hnc, hC⟩ := id hc
  refine lv_aload_n hx hb dX4_dropAll_0 rfl (lv_at hl 0 rfl) ?_
  have hDc := hD
  have hFc := va_free (wc := w4 b cI cZ tw nk pa nc fo th tg nt tb te tk tt ex tc es wy ab re go be) hD hS hA [0, 1, 2, 3, 4, 5, 6, 7, 8, 9, 10, 11, 12] rfl
  refine va_callv (va_runV (As := []) (rest := []) ⟨hx, hb, hml, hown, hts⟩ (c_X4_reach l dC dI cI cZ cJ b tw nk pa nc fo th tg nt tb te tk tt ex tc es wy ab re go be T up H.size (by first | assumption | omega) (by first | assumption | omega)) (cwV 0 hts gX4_dropAll_X4_reach rfl rfl rfl (by decide +kernel) ⟨Nat.le_of_ble_eq_true rfl, Nat.le_of_ble_eq_true rfl⟩) ⟨zWr_blind, va_recv hK hP (ci := 4) (q0 := 0) rfl rfl, zWr_at hP hK hn (hDc.weaken (fun _ _ _ _ => trivial))⟩ rfl rfl hl.1 rfl (lv_room (Nat.le_of_ble_eq_true rfl)) dX4_dropAll_1 ⟨Nat.le_of_ble_eq_true rfl, Nat.le_of_ble_eq_true rfl⟩) hS (fun q _ h => hFc q h) hFc (fun u_9 t H1 locs ht hvm hw hB hz1 hk1 hS => ?_)
  obtain ⟨re_n, rfl⟩ : ∃ z, z = u_9 := ⟨_, rfl⟩
  obtain ⟨hP1, -, hD1⟩ := hB
  rw [ht] at hP1
  obtain ⟨hP, hD⟩ := va_join (wr := []) (w1 := w4 b cI cZ tw nk pa nc fo th tg nt tb te tk tt ex tc es wy ab re_n go be) hP hD [0, 1, 2, 3, 4, 5, 6, 7, 8, 9, 10, 11, 12] [] rfl rfl (by decide) (by decide) hk1 hFc hP1 hD1
  generalize H1 = H at hP hS ⊢
  have hP : va_P (dC, dI) vwCl (w4 b cI cZ tw nk pa nc fo th tg nt tb te tk tt ex tc es wy ab re_n go be) H := hP
  have hD : va_D A (w4 b cI cZ tw nk pa nc fo th tg nt tb te tk tt ex tc es wy ab re_n go be) := hD
  have hre := hw
  refine lv_bipush (v := 24) hx hb dX4_dropAll_4 (by decide) ?_
  refine va_newa (atype := .boolean) (ty := .boolean) (a0 := (24, .inl (fun _ => 0))) hx hb (hts (.arrayClass .boolean) (by decide +kernel)) rfl hK hP hD hS hA (n := 24) (N' := 24) (fun _ => rfl) (by decide) (by decide) (by decide) (Nat.le_of_ble_eq_true rfl) (Nat.le_of_ble_eq_true rfl) dX4_dropAll_6 (fun q_6 cA H hK1 hP hD hS => ?_)
  rw [zz_cZ hK1] at hP hD
  refine W.widen (k := 1) (n := 24) (by omega) (by omega) ?_
  have hP : va_P (dC, dI) vwCl (w4 b cI cZ tw nk pa nc fo th tg nt tb te tk tt ex tc es wy ab re_n go be ++ [(q_6, .inl (cZ, 24, .inl (fun _ => 0)))]) H := hP
  have hD : va_D A (w4 b cI cZ tw nk pa nc fo th tg nt tb te tk tt ex tc es wy ab re_n go be ++ [(q_6, .inl (cZ, 24, .inl (fun _ => 0)))]) := hD
  refine lv_astore_n (lv' := [(1, .ref q_6), (0, .ref (b 0))]) hx hb dX4_dropAll_8 rfl hl (by decide) rfl (fun ls hl => ?_)
  refine lv_iconst (v := 0) hx hb dX4_dropAll_9 (by decide) ?_
  refine lv_istore_n (lv' := [(2, .int 0), (1, .ref q_6), (0, .ref (b 0))]) hx hb dX4_dropAll_10 rfl hl (by decide) rfl (fun ls hl => ?_)
  have J_11 : ∀ (n9 : Nat) (y : Nat) (ga : Nat → Int32) (H : Heap) (locs : List Loc) (ls : Array Slot), (y ≤ nt) → (∀ e, e < y → ga e = bI ((fun e => an (US nk nc fo th tg T nt up e) nc) e)) → nt - y < n9 → va_P (dC, dI) vwCl (w4 b cI cZ tw nk pa nc fo th tg nt tb te tk tt ex tc es wy ab re_n go be ++ [(q_6, .inl (cZ, 24, .inl ga))]) H → va_D A (w4 b cI cZ tw nk pa nc fo th tg nt tb te tk tt ex tc es wy ab re_n go be ++ [(q_6, .inl (cZ, 24, .inl ga))]) → va_S A s.heap H locs → lv_has ls 4 [(0, .ref (b 0)), (1, .ref q_6), (2, .int (nI y))] → W p l e (headSpec wsX4_dropAll ({ frames := 4, cells := 1, slots := 24, locals := 91 } : Room)).room s m args below meth c H locs 1 24 Q (F0 m 11 ls []) := by
    intro n9
    induction n9 with
    | zero => intro y ga H locs ls hy ha hmu; exact absurd hmu (Nat.not_lt_zero _)
    | succ n9 ih_11 =>
      intro y ga H locs ls hy ha hmu hP hD hS hl
      refine lv_iload_n hx hb dX4_dropAll_11 rfl (lv_at hl 2 rfl) ?_
      refine lv_aload_n hx hb dX4_dropAll_12 rfl (lv_at hl 0 rfl) ?_
      refine va_get (D := (dC, dI)) (ci := 4) (v := .int (nI nt)) (C := RX4) (T := TX4) (N := 20) hx hb hts (by decide +kernel) hown hK hP 0 rfl rfl 7 (by decide) (hts (.fieldLink RX4 64 "HandlerOptimizerModel" "entries" "I") (by decide +kernel)) (fun _ h9 => h9) rfl dX4_dropAll_13 ?_
      refine lv_icmp_ge (tgt := 33) hx hb dX4_dropAll_16 (by decide) (fun c_3 => ?_) (fun c_3 => ?_)
      · skip
        have c_3 := (zz_get (a := y) (b := nt) (by omega) (by omega)).mp c_3
        refine lv_iconst (v := 0) hx hb dX4_dropAll_33 (by decide) ?_
        refine lv_istore_n (lv' := [(2, .int 0), (0, .ref (b 0)), (1, .ref q_6)]) hx hb dX4_dropAll_34 rfl hl (by decide) rfl (fun ls hl => ?_)
        refine lv_aload_n hx hb dX4_dropAll_35 rfl (lv_at hl 1 rfl) ?_
        refine va_get (D := (dC, dI)) (ci := 4) (v := .int (nI nt)) (C := RX4) (T := TX4) (N := 20) hx hb hts (by decide +kernel) hown hK hP 0 rfl rfl 7 (by decide) (hts (.fieldLink RX4 64 "HandlerOptimizerModel" "entries" "I") (by decide +kernel)) (fun _ h9 => h9) rfl dX4_dropAll_36 ?_
        refine lv_iconst (v := 1) hx hb dX4_dropAll_39 (by decide) ?_
        refine lv_isub hx hb dX4_dropAll_40 ?_
        refine lv_istore_n (lv' := [(3, .int ((nI nt) - 1)), (2, .int 0), (0, .ref (b 0)), (1, .ref q_6)]) hx hb dX4_dropAll_41 rfl hl (by decide) rfl (fun ls hl => ?_)
        have J_42 : ∀ (n9 : Nat) (y3 : Nat) (n : Nat) (g9 : Nat) (gb : Nat → Int32) (ge : Nat → Int32) (gk : Nat → Int32) (gt : Nat → Int32) (D : Nat → Nat → Nat) (H : Heap) (locs : List Loc) (ls : Array Slot), (y3 ≤ n) → (n ≤ nt) → (g9 + n = nt) → (rT n gb ge gk gt D) → (okT nk n D) → (dlp (fun e => an (US nk nc fo th tg T nt up e) nc) nt (T, nt) = dlp (fun e => an (US nk nc fo th tg T nt up e) nc) y3 (D, n)) → y3 < n9 → va_P (dC, dI) vwCl (w4 b cI cZ tw nk pa nc fo th tg n gb ge gk gt ex tc es wy ab re_n go be ++ [(q_6, .inl (cZ, 24, .inl ga))]) H → va_D A (w4 b cI cZ tw nk pa nc fo th tg n gb ge gk gt ex tc es wy ab re_n go be ++ [(q_6, .inl (cZ, 24, .inl ga))]) → va_S A s.heap H locs → lv_has ls 4 [(0, .ref (b 0)), (1, .ref q_6), (2, .int (nI g9)), (3, .int (nI y3 - 1))] → W p l e (headSpec wsX4_dropAll ({ frames := 4, cells := 1, slots := 24, locals := 91 } : Room)).room s m args below meth c H locs 1 24 Q (F0 m 42 ls []) := by
          intro n9
          induction n9 with
          | zero => intro y3 n g9 gb ge gk gt D H locs ls hy3 hn9 hg9 hrt ho hq hmu; exact absurd hmu (Nat.not_lt_zero _)
          | succ n9 ih_42 =>
            intro y3 n g9 gb ge gk gt D H locs ls hy3 hn9 hg9 hrt ho hq hmu hP hD hS hl
            refine lv_iload_n hx hb dX4_dropAll_42 rfl (lv_at hl 3 rfl) ?_
            refine lv_if_lt (tgt := 69) hx hb dX4_dropAll_43 (by decide) (fun c_4 => ?_) (fun c_4 => ?_)
            · skip
              have c1 := zz_cdt (by omega) c_4
              subst c1
              have hq7 : dR nk nc fo th tg up (T, nt) = (D, n) := hq
              refine lv_iload_n hx hb dX4_dropAll_69 rfl (lv_at hl 2 rfl) ?_
              rw [← hQ]
              have hP9 := hP.sub (ws' := w4 b cI cZ tw nk pa nc fo th tg n gb ge gk gt ex tc es wy ab re_n go be) [0, 1, 2, 3, 4, 5, 6, 7, 8, 9, 10, 11, 12] rfl
              have hD9 := hD.sub (ws' := w4 b cI cZ tw nk pa nc fo th tg n gb ge gk gt ex tc es wy ab re_n go be) [0, 1, 2, 3, 4, 5, 6, 7, 8, 9, 10, 11, 12] (by decide) rfl
              exact W.iret (v := nI g9) hx hb hr (fun t ht hW => ⟨⟨nI g9, (re_n, n, gb, ge, gk, gt), rfl, (⟨by rw [hq7, show g9 = nt - n from by omega], by rw [hq7], by rw [hq7]; exact ⟨hk01, hk8, by omega, hrt, ho, hF, hU⟩⟩), (by rw [ht]; exact hP9), va_K.moved hW.alike hK, hD9⟩, hS.F ht⟩) hS.2.2 dX4_dropAll_70
            · skip
              have c1 := zz_cdf c_4
              obtain ⟨z, rfl⟩ : ∃ z, y3 = z + 1 := ⟨y3 - 1, by omega⟩
              rw [nI_pred] at hl
              refine lv_aload_n hx hb dX4_dropAll_46 rfl (lv_at hl 1 rfl) ?_
              refine lv_iload_n hx hb dX4_dropAll_47 rfl (lv_at hl 3 rfl) ?_
              refine va_zald hx hb hK hP 13 1 rfl rfl (vp_in_nI (n := z) (by omega) (by decide)) dX4_dropAll_48 ?_
              refine zz_top (y := ga z) (congrArg _ (nI_clamp (by omega))) ?_
              refine zz_top (y := bI ((fun e => an (US nk nc fo th tg T nt up e) nc) z)) (ha z (by omega)) ?_
              refine lv_if_eq (tgt := 55) hx hb dX4_dropAll_49 (by decide) (fun c_5 => ?_) (fun c_5 => ?_)
              · skip
                have c9 : an ((US nk nc fo th tg T nt up) z) nc = false := zb_0.mp c_5
                refine lv_aload_n hx hb dX4_dropAll_55 rfl (lv_at hl 0 rfl) ?_
                refine lv_iload_n hx hb dX4_dropAll_56 rfl (lv_at hl 3 rfl) ?_
                have hPc := hP.sub (ws' := w4 b cI cZ tw nk pa nc fo th tg n gb ge gk gt ex tc es wy ab re_n go be) [0, 1, 2, 3, 4, 5, 6, 7, 8, 9, 10, 11, 12] rfl
                have hDc := hD.sub (ws' := w4 b cI cZ tw nk pa nc fo th tg n gb ge gk gt ex tc es wy ab re_n go be) [0, 1, 2, 3, 4, 5, 6, 7, 8, 9, 10, 11, 12] (by decide) rfl
                have hFc := va_free (wc := w4 b cI cZ tw nk pa nc fo th tg n gb ge gk gt ex tc es wy ab re_n go be) hD hS hA [0, 1, 2, 3, 4, 5, 6, 7, 8, 9, 10, 11, 12] rfl
                refine va_callv (va_runV (As := [.int (nI z)]) (rest := []) ⟨hx, hb, hml, hown, hts⟩ (c_X4_remove l dC dI cI cZ cJ b tw nk pa nc fo th tg n gb ge gk gt ex tc es wy ab re_n go be z D H.size (by omega) (by omega) (hrt)) (cwV 1 hts gX4_dropAll_X4_remove rfl rfl rfl (by decide +kernel) ⟨Nat.le_of_ble_eq_true rfl, Nat.le_of_ble_eq_true rfl⟩) ⟨zWr_blind, va_recv hK hPc (ci := 4) (q0 := 0) rfl rfl, zWr_at hPc hK hn (hDc.weaken (fun _ _ _ _ => trivial))⟩ rfl rfl hl.1 rfl (lv_room (Nat.le_of_ble_eq_true rfl)) dX4_dropAll_57 ⟨Nat.le_of_ble_eq_true rfl, Nat.le_of_ble_eq_true rfl⟩) hS (fun q _ h => hFc q h) hFc (fun u_9 t H1 locs ht hvm hw hB hz1 hk1 hS => ?_)
                obtain ⟨tb_n, te_n, tk_n, tt_n⟩ := u_9
                dsimp only at hw hB
                obtain ⟨hP1, -, hD1⟩ := hB
                rw [ht] at hP1
                obtain ⟨hP, hD⟩ := va_join (wr := [(q_6, .inl (cZ, 24, .inl ga))]) (w1 := w4 b cI cZ tw nk pa nc fo th tg (n - 1) tb_n te_n tk_n tt_n ex tc es wy ab re_n go be) hP hD [0, 1, 2, 3, 4, 5, 6, 7, 8, 9, 10, 11, 12] [13] rfl rfl (by decide) (by decide) hk1 hFc hP1 hD1
                generalize H1 = H at hP hS ⊢
                have hP := hP.sub (ws' := w4 b cI cZ tw nk pa nc fo th tg (n - 1) tb_n te_n tk_n tt_n ex tc es wy ab re_n go be ++ [(q_6, .inl (cZ, 24, .inl ga))]) [1, 2, 3, 4, 5, 6, 7, 8, 9, 10, 11, 12, 13, 0] rfl
                have hD := hD.sub (ws' := w4 b cI cZ tw nk pa nc fo th tg (n - 1) tb_n te_n tk_n tt_n ex tc es wy ab re_n go be ++ [(q_6, .inl (cZ, 24, .inl ga))]) [1, 2, 3, 4, 5, 6, 7, 8, 9, 10, 11, 12, 13, 0] (by decide) rfl
                have hP : va_P (dC, dI) vwCl (w4 b cI cZ tw nk pa nc fo th tg (n - 1) tb_n te_n tk_n tt_n ex tc es wy ab re_n go be ++ [(q_6, .inl (cZ, 24, .inl ga))]) H := hP
                have hD : va_D A (w4 b cI cZ tw nk pa nc fo th tg (n - 1) tb_n te_n tk_n tt_n ex tc es wy ab re_n go be ++ [(q_6, .inl (cZ, 24, .inl ga))]) := hD
                obtain ⟨D9, hD9e⟩ : ∃ q, q = dT D z := ⟨_, rfl⟩
                have hr8 : rT (n - 1) tb_n te_n tk_n tt_n D9 := by rw [hD9e]; exact hw
                have ho8 : okT nk (n - 1) D9 := by rw [hD9e]; exact okT_del ho
                have hq8 : dlp (fun e => an (US nk nc fo th tg T nt up e) nc) nt (T, nt) = dlp (fun e => an (US nk nc fo th tg T nt up e) nc) z (D9, n - 1) := by rw [hq, hD9e]; simp only [dlp]; rw [if_neg (by rw [c9]; exact Bool.false_ne_true)]
                refine lv_iinc (v := nI (g9 + 1)) (lv' := [(2, .int (nI (g9 + 1))), (0, .ref (b 0)), (1, .ref q_6), (3, .int (nI z))]) hx hb dX4_dropAll_60 hl (k := 2) rfl (zz_inc g9 1) (by decide) rfl (fun ls hl => ?_)
                refine lv_iinc (v := nI z - 1) (lv' := [(3, .int (nI z - 1)), (2, .int (nI (g9 + 1))), (0, .ref (b 0)), (1, .ref q_6)]) hx hb dX4_dropAll_63 hl (k := 3) rfl (zz_decm z) (by decide) rfl (fun ls hl => ?_)
                refine lv_goto (tgt := 42) hx hb dX4_dropAll_66 (by decide) ?_
                exact ih_42 z (n - 1) (g9 + 1) tb_n te_n tk_n tt_n D9 _ _ _ (by first | assumption | omega) (by first | assumption | omega) (by first | assumption | omega) hr8 ho8 hq8 (by omega) hP hD hS (lv_sub hl [2, 3, 1, 0] rfl)
              · skip
                have c9 : an ((US nk nc fo th tg T nt up) z) nc = true := zb_1.mp c_5
                obtain ⟨D9, hD9e⟩ : ∃ q, q = D := ⟨_, rfl⟩
                have hr8 : rT n gb ge gk gt D9 := by rw [hD9e]; exact hrt
                have ho8 : okT nk n D9 := by rw [hD9e]; exact ho
                have hq8 : dlp (fun e => an (US nk nc fo th tg T nt up e) nc) nt (T, nt) = dlp (fun e => an (US nk nc fo th tg T nt up e) nc) z (D9, n) := by rw [hq, hD9e]; simp only [dlp]; rw [if_pos c9]
                refine lv_goto (tgt := 63) hx hb dX4_dropAll_52 (by decide) ?_
                refine lv_iinc (v := nI z - 1) (lv' := [(3, .int (nI z - 1)), (0, .ref (b 0)), (1, .ref q_6), (2, .int (nI g9))]) hx hb dX4_dropAll_63 hl (k := 3) rfl (zz_decm z) (by decide) rfl (fun ls hl => ?_)
                refine lv_goto (tgt := 42) hx hb dX4_dropAll_66 (by decide) ?_
                exact ih_42 z n g9 gb ge gk gt D9 _ _ _ (by first | assumption | omega) (by first | assumption | omega) (by first | assumption | omega) hr8 ho8 hq8 (by omega) hP hD hS (lv_sub hl [1, 2, 3, 0] rfl)
        exact J_42 _ nt nt 0 tb te tk tt T _ _ _ (by first | assumption | omega) (by first | assumption | omega) (by omega) hT hO rfl (Nat.lt_succ_self _) hP hD hS (lv_sub hl [2, 3, 1, 0] rfl)
      · skip
        have c_3 := (zz_gef (a := y) (b := nt) (by omega) (by omega)).mp c_3
        refine lv_aload_n hx hb dX4_dropAll_19 rfl (lv_at hl 1 rfl) ?_
        refine lv_iload_n hx hb dX4_dropAll_20 rfl (lv_at hl 2 rfl) ?_
        refine lv_aload_n hx hb dX4_dropAll_21 rfl (lv_at hl 0 rfl) ?_
        refine lv_iload_n hx hb dX4_dropAll_22 rfl (lv_at hl 2 rfl) ?_
        have hPc := hP.sub (ws' := w4 b cI cZ tw nk pa nc fo th tg nt tb te tk tt ex tc es wy ab re_n go be) [0, 1, 2, 3, 4, 5, 6, 7, 8, 9, 10, 11, 12] rfl
        refine va_calli (va_runV (As := [.int (nI y)]) (rest := [.int (nI y), .ref q_6]) ⟨hx, hb, hml, hown, hts⟩ (c_X4_isTaking l dC dI cI cZ cJ b tw nk pa nc fo th tg nt tb te tk tt ex tc es wy ab re_n go be y T up (RB nk nc fo th tg T nt up) (by first | assumption | omega) (by first | assumption | omega) (by omega) (hre)) (cwV 1 hts gX4_dropAll_X4_isTaking rfl rfl rfl (by decide +kernel) ⟨Nat.le_of_ble_eq_true rfl, Nat.le_of_ble_eq_true rfl⟩) ⟨zPre_blind, va_recv hK hPc (ci := 4) (q0 := 0) rfl rfl, zPre_at hPc hK hn⟩ rfl rfl hl.1 rfl (lv_room (Nat.le_of_ble_eq_true rfl)) dX4_dropAll_23 ⟨Nat.le_of_ble_eq_true rfl, Nat.le_of_ble_eq_true rfl⟩) hS (fun _ _ h => h.elim) (fun _ h => h.elim) (fun r_11 u_9 t H locs ht hvm hw hB hz1 hk1 hS => ?_)
        have hP := zkeep hP hk1
        subst hw
        refine va_zast hx hb hK hP hD hS 13 1 rfl rfl (vp_in_nI (n := y) (by omega) (by decide)) dX4_dropAll_26 (fun H locs hP hD hS => ?_)
        rw [nI_clamp (n := y) (by omega)] at hP hD
        rw [zz_nar] at hP hD
        have hP : va_P (dC, dI) vwCl (w4 b cI cZ tw nk pa nc fo th tg nt tb te tk tt ex tc es wy ab re_n go be ++ [(q_6, .inl (cZ, 24, .inl (upd ga y (bI (an (fun j9 => (RB nk nc fo th tg T nt up) j9 && an (fun k9 => bt (th j9) k9 && decide (tkf T nt up j9 k9 = y)) nk) nc)))))]) H := hP
        have hD : va_D A (w4 b cI cZ tw nk pa nc fo th tg nt tb te tk tt ex tc es wy ab re_n go be ++ [(q_6, .inl (cZ, 24, .inl (upd ga y (bI (an (fun j9 => (RB nk nc fo th tg T nt up) j9 && an (fun k9 => bt (th j9) k9 && decide (tkf T nt up j9 k9 = y)) nk) nc)))))]) := hD
        refine lv_iinc (v := nI (y + 1)) (lv' := [(2, .int (nI (y + 1))), (0, .ref (b 0)), (1, .ref q_6)]) hx hb dX4_dropAll_27 hl (k := 2) rfl (zz_inc y 1) (by decide) rfl (fun ls hl => ?_)
        refine lv_goto (tgt := 11) hx hb dX4_dropAll_30 (by decide) ?_
        exact ih_11 (y + 1) (upd ga y (bI (an (fun j9 => (RB nk nc fo th tg T nt up) j9 && an (fun k9 => bt (th j9) k9 && decide (tkf T nt up j9 k9 = y)) nk) nc))) _ _ _ (by first | assumption | omega) (by
                intro e he
                by_cases d : e = y
                · subst d; simp only [upd, if_true]; rfl
                · simp only [upd, if_neg d]; exact ha e (by omega)) (by omega) hP hD hS (lv_sub hl [1, 2, 0] rfl)
  exact J_11 _ 0 (fun _ => 0) _ _ _ (by first | assumption | omega) lt_0 (Nat.lt_succ_self _) hP hD hS (lv_sub hl [2, 1, 0] rfl)

set_option maxHeartbeats 4000000 in
set_option maxRecDepth 100000 in
theorem c_X4_shrinkAll (l : Launch) (dC : Nat → ClassId) (dI : Nat → Nat → Nat) (cI cZ cJ : ClassId) (b : Nat → Nat) (tw : Int32) (nk : Nat) (pa : Nat → Int32) (nc : Nat) (fo : Nat → Int32) (th : Nat → Int32) (tg : Nat → Int32) (nt : Nat) (tb : Nat → Int32) (te : Nat → Int32) (tk : Nat → Int32) (tt : Nat → Int32) (ex : Int32) (tc : Int32) (es : Int32) (wy : Int64) (ab : Nat → Int32) (re : Nat → Int32) (go : Nat → Int32) (be : Nat → Int32) (T : Nat → Nat → Nat) (up : Nat → Nat → Bool) (sz : Nat) (hg : g4 nk ab up nt tb te tk tt T) (hc : okC nk nc fo th tg) : Met l yX4_shrinkAll wsX4_shrinkAll ({ frames := 4, cells := 2, slots := 48, locals := 90 } : Room) (va_Pc [.ref (b 0)] (zWr (dC, dI) [(cI, .int), (cZ, .boolean), (cJ, .long)] (w4 b cI cZ tw nk pa nc fo th tg nt tb te tk tt ex tc es wy ab re go be) sz)) (va_Qi (fun (r : Int32) (u : (Nat → Int32) × (Nat → Int32) × (Nat → Int32)) => match u with | (re9, tb9, te9) => r = nI (sRc nk nc fo th tg up (T, nt)) ∧ g4 nk ab up nt tb9 te9 tk tt (sR nk nc fo th tg up (T, nt)).1) (fun u t => match u with | (re9, tb9, te9) => zWo (dC, dI) [(cI, .int), (cZ, .boolean), (cJ, .long)] (w4 b cI cZ tw nk pa nc fo th tg nt tb9 te9 tk tt ex tc es wy ab re9 go be) (va_A (w4 b cI cZ tw nk pa nc fo th tg nt tb te tk tt ex tc es wy ab re go be) sz) t) (va_A (w4 b cI cZ tw nk pa nc fo th tg nt tb te tk tt ex tc es wy ab re go be) sz)) 2 48 (va_A (w4 b cI cZ tw nk pa nc fo th tg nt tb te tk tt ex tc es wy ab re go be) sz) := by
  refine Met.ofW (cc := cX4_shrinkAll) (maxL := 6) (ret := (some .int)) (by decide) rfl ?_
  intro p e s m args below meth c s₁ B hml hv
  obtain ⟨hav, hsz, ⟨hP, hK, hn⟩, hD0⟩ := hv
  have hx := B.exec
  have hb := B.bytes
  have hr := B.returns
  have hts := atoms_spec (ws := wsX4_shrinkAll) B.pre
  have hown : s.vm.findClass RX4 = some m.cls := findClass_of_methodNamed B.named
  have hlocks := B.notSynchronized
  subst hsz
  have hD := hD0.self (sz := s.heap.size)
  generalize hAe : (va_A (w4 b cI cZ tw nk pa nc fo th tg nt tb te tk tt ex tc es wy ab re go be) s.heap.size) = A at hD ⊢
  have hA : ∀ q : Nat, s.heap.size ≤ q → A q := fun q h => by rw [← hAe]; exact Or.inr h
  have hS : va_S A s.heap s.heap [] := va_S.rf
  generalize hQ : MQ below (va_Qi (fun (r : Int32) (u : (Nat → Int32) × (Nat → Int32) × (Nat → Int32)) => match u with | (re9, tb9, te9) => r = nI (sRc nk nc fo th tg up (T, nt)) ∧ g4 nk ab up nt tb9 te9 tk tt (sR nk nc fo th tg up (T, nt)).1) (fun u t => match u with | (re9, tb9, te9) => zWo (dC, dI) [(cI, .int), (cZ, .boolean), (cJ, .long)] (w4 b cI cZ tw nk pa nc fo th tg nt tb9 te9 tk tt ex tc es wy ab re9 go be) A t) A) args s 2 48 A = Q
  refine W.eq (g2 := entryFrame m ([.ref (b 0)] : List Value).toArray 6) (by rw [hav]) ?_
  have hl := lv_entry ([.ref (b 0)]) (n := 6) (Nat.le_of_ble_eq_true rfl)
  rw [lg_entry_eq]
  generalize (lg_sl ([.ref (b 0)]) ++ List.replicate (6 - (lg_sl ([.ref (b 0)])).length) Slot.unset).toArray = ls at hl ⊢
  have hl : lv_has ls 6 [(0, .ref (b 0))] := hl
  obtain ⟨H, hH⟩ : ∃ H, H = s.heap := ⟨_, rfl⟩
  obtain ⟨locs, hlo⟩ : ∃ q : List Loc, q = [] := ⟨_, rfl⟩
  have hP : va_P (dC, dI) vwCl (w4 b cI cZ tw nk pa nc fo th tg nt tb te tk tt ex tc es wy ab re go be) H := by rw [hH]; exact hP
  have hS : va_S A s.heap H locs := by rw [hH, hlo]; exact hS
  refine zz_hl hH hlo ?_
  obtain ⟨hk01, hk8, hnt, hT, hO, hF, hU⟩ := id hg
  obtain ⟨hnc, hC⟩ := id hc
  refine lv_aload_n hx hb dX4_shrinkAll_0 rfl (lv_at hl 0 rfl) ?_
  have hDc := hD
  have hFc := va_free (wc := w4 b cI cZ tw nk pa nc fo th tg nt tb te tk tt ex tc es wy ab re go be) hD hS hA [0, 1, 2, 3, 4, 5, 6, 7, 8, 9, 10, 11, 12] rfl
  refine va_callv (va_runV (As := []) (rest := []) ⟨hx, hb, hml, hown, hts⟩ (c_X4_reach l dC dI cI cZ cJ b tw nk pa nc fo th tg nt tb te tk tt ex tc es wy ab re go be T up H.size (by first | assumption | omega) (by first | assumption | omega)) (cwV 0 hts gX4_shrinkAll_X4_reach rfl rfl rfl (by decide +kernel) ⟨Nat.le_of_ble_eq_true rfl, Nat.le_of_ble_eq_true rfl⟩) ⟨zWr_blind, va_recv hK hP (ci := 4) (q0 := 0) rfl rfl, zWr_at hP hK hn (hDc.weaken (fun _ _ _ _ => trivial))⟩ rfl rfl hl.1 rfl (lv_room (Nat.le_of_ble_eq_true rfl)) dX4_shrinkAll_1 ⟨Nat.le_of_ble_eq_true rfl, Nat.le_of_ble_eq_true rfl⟩) hS (fun q _ h => hFc q h) hFc (fun u_9 t H1 locs ht hvm hw hB hz1 hk1 hS => ?_)
  obtain ⟨re_n, rfl⟩ : ∃ z, z = u_9 := ⟨_, rfl⟩
  obtain ⟨hP1, -, hD1⟩ := hB
  rw [ht] at hP1
  obtain ⟨hP, hD⟩ := va_join (wr := []) (w1 := w4 b cI cZ tw nk pa nc fo th tg nt tb te tk tt ex tc es wy ab re_n go be) hP hD [0, 1, 2, 3, 4, 5, 6, 7, 8, 9, 10, 11, 12] [] rfl rfl (by decide) (by decide) hk1 hFc hP1 hD1
  generalize H1 = H at hP hS ⊢
  have hP : va_P (dC, dI) vwCl (w4 b cI cZ tw nk pa nc fo th tg nt tb te tk tt ex tc es wy ab re_n go be) H := hP
  have hD : va_D A (w4 b cI cZ tw nk pa nc fo th tg nt tb te tk tt ex tc es wy ab re_n go be) := hD
  have hre := hw
  refine lv_iconst (v := 0) hx hb dX4_shrinkAll_4 (by decide) ?_
  refine lv_istore_n (lv' := [(1, .int 0), (0, .ref (b 0))]) hx hb dX4_shrinkAll_5 rfl hl (by decide) rfl (fun ls hl => ?_)
  refine lv_bipush (v := 24) hx hb dX4_shrinkAll_6 (by decide) ?_
  refine va_newa (atype := .int) (ty := .int) (a0 := (24, .inl (fun _ => 0))) hx hb (hts (.arrayClass .int) (by decide +kernel)) rfl hK hP hD hS hA (n := 24) (N' := 24) (fun _ => rfl) (by decide) (by decide) (by decide) (Nat.le_of_ble_eq_true rfl) (Nat.le_of_ble_eq_true rfl) dX4_shrinkAll_8 (fun q_8 cA H hK1 hP hD hS => ?_)
  rw [zz_cI hK1] at hP hD
  refine W.widen (k := 1) (n := 24) (by omega) (by omega) ?_
  have hP : va_P (dC, dI) vwCl (w4 b cI cZ tw nk pa nc fo th tg nt tb te tk tt ex tc es wy ab re_n go be ++ [(q_8, .inl (cI, 24, .inl (fun _ => 0)))]) H := hP
  have hD : va_D A (w4 b cI cZ tw nk pa nc fo th tg nt tb te tk tt ex tc es wy ab re_n go be ++ [(q_8, .inl (cI, 24, .inl (fun _ => 0)))]) := hD
  refine lv_astore_n (lv' := [(2, .ref q_8), (1, .int 0), (0, .ref (b 0))]) hx hb dX4_shrinkAll_10 rfl hl (by decide) rfl (fun ls hl => ?_)
  refine lv_bipush (v := 24) hx hb dX4_shrinkAll_11 (by decide) ?_
  refine va_newa (atype := .int) (ty := .int) (a0 := (24, .inl (fun _ => 0))) hx hb (hts (.arrayClass .int) (by decide +kernel)) rfl hK hP hD hS hA (n := 24) (N' := 24) (fun _ => rfl) (by decide) (by decide) (by decide) (Nat.le_of_ble_eq_true rfl) (Nat.le_of_ble_eq_true rfl) dX4_shrinkAll_13 (fun q_13 cA H hK1 hP hD hS => ?_)
  rw [zz_cI hK1] at hP hD
  refine W.widen (k := 2) (n := 48) (by omega) (by omega) ?_
  have hP : va_P (dC, dI) vwCl (w4 b cI cZ tw nk pa nc fo th tg nt tb te tk tt ex tc es wy ab re_n go be ++ [(q_8, .inl (cI, 24, .inl (fun _ => 0))), (q_13, .inl (cI, 24, .inl (fun _ => 0)))]) H := hP
  have hD : va_D A (w4 b cI cZ tw nk pa nc fo th tg nt tb te tk tt ex tc es wy ab re_n go be ++ [(q_8, .inl (cI, 24, .inl (fun _ => 0))), (q_13, .inl (cI, 24, .inl (fun _ => 0)))]) := hD
  refine lv_astore_n (lv' := [(3, .ref q_13), (2, .ref q_8), (1, .int 0), (0, .ref (b 0))]) hx hb dX4_shrinkAll_15 rfl hl (by decide) rfl (fun ls hl => ?_)
  refine lv_iconst (v := 0) hx hb dX4_shrinkAll_16 (by decide) ?_
  refine lv_istore (lv' := [(4, .int 0), (3, .ref q_13), (2, .ref q_8), (1, .int 0), (0, .ref (b 0))]) hx hb dX4_shrinkAll_17 hl (by decide) rfl (fun ls hl => ?_)
  have J_19 : ∀ (n9 : Nat) (y : Nat) (gp : Nat → Int32) (gn : Nat → Int32) (H : Heap) (locs : List Loc) (ls : Array Slot), (y ≤ nt) → (∀ e, e < y → uB (US nk nc fo th tg T nt up) nc gp gn e) → (∀ e, y ≤ e → gn e = 0) → nt - y < n9 → va_P (dC, dI) vwCl (w4 b cI cZ tw nk pa nc fo th tg nt tb te tk tt ex tc es wy ab re_n go be ++ [(q_8, .inl (cI, 24, .inl gp)), (q_13, .inl (cI, 24, .inl gn))]) H → va_D A (w4 b cI cZ tw nk pa nc fo th tg nt tb te tk tt ex tc es wy ab re_n go be ++ [(q_8, .inl (cI, 24, .inl gp)), (q_13, .inl (cI, 24, .inl gn))]) → va_S A s.heap H locs → lv_has ls 6 [(0, .ref (b 0)), (1, .int 0), (2, .ref q_8), (3, .ref q_13), (4, .int (nI y))] → W p l e (headSpec wsX4_shrinkAll ({ frames := 4, cells := 2, slots := 48, locals := 90 } : Room)).room s m args below meth c H locs 2 48 Q (F0 m 19 ls []) := by
    intro n9
    induction n9 with
    | zero => intro y gp gn H locs ls hy hb9 h09 hmu; exact absurd hmu (Nat.not_lt_zero _)
    | succ n9 ih_19 =>
      intro y gp gn H locs ls hy hb9 h09 hmu hP hD hS hl
      refine lv_iload hx hb dX4_shrinkAll_19 (lv_at hl 4 rfl) ?_
      refine lv_aload_n hx hb dX4_shrinkAll_21 rfl (lv_at hl 0 rfl) ?_
      refine va_get (D := (dC, dI)) (ci := 4) (v := .int (nI nt)) (C := RX4) (T := TX4) (N := 20) hx hb hts (by decide +kernel) hown hK hP 0 rfl rfl 7 (by decide) (hts (.fieldLink RX4 64 "HandlerOptimizerModel" "entries" "I") (by decide +kernel)) (fun _ h9 => h9) rfl dX4_shrinkAll_22 ?_
      refine lv_icmp_ge (tgt := 93) hx hb dX4_shrinkAll_25 (by decide) (fun c_3 => ?_) (fun c_3 => ?_)
      · skip
        have c_3 := (zz_get (a := y) (b := nt) (by omega) (by omega)).mp c_3
        refine lv_iconst (v := 0) hx hb dX4_shrinkAll_93 (by decide) ?_
        refine lv_istore (lv' := [(4, .int 0), (0, .ref (b 0)), (1, .int 0), (2, .ref q_8), (3, .ref q_13)]) hx hb dX4_shrinkAll_94 hl (by decide) rfl (fun ls hl => ?_)
        have J_96 : ∀ (n9 : Nat) (y3 : Nat) (g : Nat) (gb : Nat → Int32) (ge : Nat → Int32) (H : Heap) (locs : List Loc) (ls : Array Slot), (y3 ≤ nt) → (rT nt gb ge tk tt (shY (US nk nc fo th tg T nt up) nc T y3)) → (g = it (shN (US nk nc fo th tg T nt up) nc T) y3 0) → nt - y3 < n9 → va_P (dC, dI) vwCl (w4 b cI cZ tw nk pa nc fo th tg nt gb ge tk tt ex tc es wy ab re_n go be ++ [(q_8, .inl (cI, 24, .inl gp)), (q_13, .inl (cI, 24, .inl gn))]) H → va_D A (w4 b cI cZ tw nk pa nc fo th tg nt gb ge tk tt ex tc es wy ab re_n go be ++ [(q_8, .inl (cI, 24, .inl gp)), (q_13, .inl (cI, 24, .inl gn))]) → va_S A s.heap H locs → lv_has ls 6 [(0, .ref (b 0)), (1, .int (nI g)), (2, .ref q_8), (3, .ref q_13), (4, .int (nI y3))] → W p l e (headSpec wsX4_shrinkAll ({ frames := 4, cells := 2, slots := 48, locals := 90 } : Room)).room s m args below meth c H locs 2 48 Q (F0 m 96 ls []) := by
          intro n9
          induction n9 with
          | zero => intro y3 g gb ge H locs ls hy3 hrt hs hmu; exact absurd hmu (Nat.not_lt_zero _)
          | succ n9 ih_96 =>
            intro y3 g gb ge H locs ls hy3 hrt hs hmu hP hD hS hl
            refine lv_iload hx hb dX4_shrinkAll_96 (lv_at hl 4 rfl) ?_
            refine lv_aload_n hx hb dX4_shrinkAll_98 rfl (lv_at hl 0 rfl) ?_
            refine va_get (D := (dC, dI)) (ci := 4) (v := .int (nI nt)) (C := RX4) (T := TX4) (N := 20) hx hb hts (by decide +kernel) hown hK hP 0 rfl rfl 7 (by decide) (hts (.fieldLink RX4 64 "HandlerOptimizerModel" "entries" "I") (by decide +kernel)) (fun _ h9 => h9) rfl dX4_shrinkAll_99 ?_
            refine lv_icmp_ge (tgt := 175) hx hb dX4_shrinkAll_102 (by decide) (fun c_4 => ?_) (fun c_4 => ?_)
            · skip
              have c_4 := (zz_get (a := y3) (b := nt) (by omega) (by omega)).mp c_4
              refine lv_iload_n hx hb dX4_shrinkAll_175 rfl (lv_at hl 1 rfl) ?_
              rw [← hQ]
              have hP9 := hP.sub (ws' := w4 b cI cZ tw nk pa nc fo th tg nt gb ge tk tt ex tc es wy ab re_n go be) [0, 1, 2, 3, 4, 5, 6, 7, 8, 9, 10, 11, 12] rfl
              have hD9 := hD.sub (ws' := w4 b cI cZ tw nk pa nc fo th tg nt gb ge tk tt ex tc es wy ab re_n go be) [0, 1, 2, 3, 4, 5, 6, 7, 8, 9, 10, 11, 12] (by decide) rfl
              exact W.iret (v := nI g) hx hb hr (fun t ht hW => ⟨⟨nI g, (re_n, gb, ge), rfl, (⟨by rw [hs, show y3 = nt from by omega]; rfl, ⟨hk01, hk8, hnt, rT_shY hrt (by omega), okT_sh hO hnc, hF, hU⟩⟩), (by rw [ht]; exact hP9), va_K.moved hW.alike hK, hD9⟩, hS.F ht⟩) hS.2.2 dX4_shrinkAll_176
            · skip
              have c_4 := (zz_gef (a := y3) (b := nt) (by omega) (by omega)).mp c_4
              have hry := hrt y3 (by omega)
              simp only [shY, show ¬ y3 < y3 by omega, if_false] at hry
              obtain ⟨o1, o2, o3, o4⟩ := hO y3 (by omega)
              obtain ⟨f1, f2⟩ := hb9 y3 (by omega)
              have q1 := ff_le ((US nk nc fo th tg T nt up) y3) nc
              have q2 := lb_le (p := (US nk nc fo th tg T nt up) y3) (n := nc)
              refine lv_aload_n hx hb dX4_shrinkAll_105 rfl (lv_at hl 2 rfl) ?_
              refine lv_iload hx hb dX4_shrinkAll_106 (lv_at hl 4 rfl) ?_
              refine va_iald hx hb hK hP 13 0 rfl rfl (vp_in_nI (n := y3) (by omega) (by decide)) dX4_shrinkAll_108 ?_
              refine zz_top (y := gp y3) (congrArg _ (nI_clamp (by omega))) ?_
              refine lv_iconst (v := -1) hx hb dX4_shrinkAll_109 (by decide) ?_
              refine lv_icmp_eq (tgt := 169) hx hb dX4_shrinkAll_110 (by decide) (fun c_5 => ?_) (fun c_5 => ?_)
              · skip
                have c9 : an ((US nk nc fo th tg T nt up) y3) nc = false := by
                  cases e9 : an ((US nk nc fo th tg T nt up) y3) nc
                  · rfl
                  · rw [f1, if_pos e9] at c_5; exact absurd c_5 (nI_ne_m1 (by omega))
                have hr8 := rT_shk hrt (shT_un c9)
                have hc8 : shC (US nk nc fo th tg T nt up) nc T y3 = false := by simp [shC, c9]
                refine lv_iinc (v := nI (y3 + 1)) (lv' := [(4, .int (nI (y3 + 1))), (0, .ref (b 0)), (1, .int (nI g)), (2, .ref q_8), (3, .ref q_13)]) hx hb dX4_shrinkAll_169 hl (k := 4) rfl (zz_inc y3 1) (by decide) rfl (fun ls hl => ?_)
                refine lv_goto (tgt := 96) hx hb dX4_shrinkAll_172 (by decide) ?_
                exact ih_96 (y3 + 1) g gb ge _ _ _ (by first | assumption | omega) hr8 (by rw [hs]; simp only [it, shN]; rw [hc8]; rfl) (by omega) hP hD hS (lv_sub hl [1, 2, 3, 4, 0] rfl)
              · skip
                have c9 : an ((US nk nc fo th tg T nt up) y3) nc = true := by
                  cases e9 : an ((US nk nc fo th tg T nt up) y3) nc
                  · rw [f1, if_neg (by rw [e9]; exact Bool.false_ne_true)] at c_5; exact absurd rfl c_5
                  · rfl
                rw [if_pos c9] at f1
                refine lv_aload_n hx hb dX4_shrinkAll_113 rfl (lv_at hl 2 rfl) ?_
                refine lv_iload hx hb dX4_shrinkAll_114 (lv_at hl 4 rfl) ?_
                refine va_iald hx hb hK hP 13 0 rfl rfl (vp_in_nI (n := y3) (by omega) (by decide)) dX4_shrinkAll_116 ?_
                refine zz_top (y := gp y3) (congrArg _ (nI_clamp (by omega))) ?_
                refine lv_aload_n hx hb dX4_shrinkAll_117 rfl (lv_at hl 0 rfl) ?_
                refine va_get (D := (dC, dI)) (ci := 4) (v := .ref (b 5)) (C := RX4) (T := TX4) (N := 20) hx hb hts (by decide +kernel) hown hK hP 0 rfl rfl 8 (by decide) (hts (.fieldLink RX4 26 "HandlerOptimizerModel" "froms" "[I") (by decide +kernel)) (fun _ h9 => h9) rfl dX4_shrinkAll_118 ?_
                refine lv_iload hx hb dX4_shrinkAll_121 (lv_at hl 4 rfl) ?_
                refine va_iald hx hb hK hP 5 0 rfl rfl (vp_in_nI (n := y3) (by omega) (by decide)) dX4_shrinkAll_123 ?_
                refine zz_top (y := gb y3) (congrArg _ (nI_clamp (by omega))) ?_
                refine lv_icmp_ne (tgt := 144) hx hb dX4_shrinkAll_124 (by decide) (fun c_6 => ?_) (fun c_6 => ?_)
                · skip
                  have c7 : ¬ T 0 y3 = ff ((US nk nc fo th tg T nt up) y3) nc := fun q => by rw [f1, hry.1, q] at c_6; exact c_6 rfl
                  have hc8 : shC (US nk nc fo th tg T nt up) nc T y3 = true := by simp [shC, c9, c7]
                  refine lv_aload_n hx hb dX4_shrinkAll_144 rfl (lv_at hl 0 rfl) ?_
                  refine va_get (D := (dC, dI)) (ci := 4) (v := .ref (b 5)) (C := RX4) (T := TX4) (N := 20) hx hb hts (by decide +kernel) hown hK hP 0 rfl rfl 8 (by decide) (hts (.fieldLink RX4 26 "HandlerOptimizerModel" "froms" "[I") (by decide +kernel)) (fun _ h9 => h9) rfl dX4_shrinkAll_145 ?_
                  refine lv_iload hx hb dX4_shrinkAll_148 (lv_at hl 4 rfl) ?_
                  refine lv_aload_n hx hb dX4_shrinkAll_150 rfl (lv_at hl 2 rfl) ?_
                  refine lv_iload hx hb dX4_shrinkAll_151 (lv_at hl 4 rfl) ?_
                  refine va_iald hx hb hK hP 13 0 rfl rfl (vp_in_nI (n := y3) (by omega) (by decide)) dX4_shrinkAll_153 ?_
                  refine zz_top (y := gp y3) (congrArg _ (nI_clamp (by omega))) ?_
                  refine va_iast hx hb hK hP hD hS 5 0 rfl rfl (vp_in_nI (n := y3) (by omega) (by decide)) dX4_shrinkAll_154 (fun H locs hP hD hS => ?_)
                  rw [nI_clamp (n := y3) (by omega)] at hP hD
                  have hP : va_P (dC, dI) vwCl (w4 b cI cZ tw nk pa nc fo th tg nt (upd gb y3 (gp y3)) ge tk tt ex tc es wy ab re_n go be ++ [(q_8, .inl (cI, 24, .inl gp)), (q_13, .inl (cI, 24, .inl gn))]) H := hP
                  have hD : va_D A (w4 b cI cZ tw nk pa nc fo th tg nt (upd gb y3 (gp y3)) ge tk tt ex tc es wy ab re_n go be ++ [(q_8, .inl (cI, 24, .inl gp)), (q_13, .inl (cI, 24, .inl gn))]) := hD
                  refine lv_aload_n hx hb dX4_shrinkAll_155 rfl (lv_at hl 0 rfl) ?_
                  refine va_get (D := (dC, dI)) (ci := 4) (v := .ref (b 6)) (C := RX4) (T := TX4) (N := 20) hx hb hts (by decide +kernel) hown hK hP 0 rfl rfl 9 (by decide) (hts (.fieldLink RX4 29 "HandlerOptimizerModel" "tos" "[I") (by decide +kernel)) (fun _ h9 => h9) rfl dX4_shrinkAll_156 ?_
                  refine lv_iload hx hb dX4_shrinkAll_159 (lv_at hl 4 rfl) ?_
                  refine lv_aload_n hx hb dX4_shrinkAll_161 rfl (lv_at hl 3 rfl) ?_
                  refine lv_iload hx hb dX4_shrinkAll_162 (lv_at hl 4 rfl) ?_
                  refine va_iald hx hb hK hP 14 0 rfl rfl (vp_in_nI (n := y3) (by omega) (by decide)) dX4_shrinkAll_164 ?_
                  refine zz_top (y := gn y3) (congrArg _ (nI_clamp (by omega))) ?_
                  refine va_iast hx hb hK hP hD hS 6 0 rfl rfl (vp_in_nI (n := y3) (by omega) (by decide)) dX4_shrinkAll_165 (fun H locs hP hD hS => ?_)
                  rw [nI_clamp (n := y3) (by omega)] at hP hD
                  have hP : va_P (dC, dI) vwCl (w4 b cI cZ tw nk pa nc fo th tg nt (upd gb y3 (gp y3)) (upd ge y3 (gn y3)) tk tt ex tc es wy ab re_n go be ++ [(q_8, .inl (cI, 24, .inl gp)), (q_13, .inl (cI, 24, .inl gn))]) H := hP
                  have hD : va_D A (w4 b cI cZ tw nk pa nc fo th tg nt (upd gb y3 (gp y3)) (upd ge y3 (gn y3)) tk tt ex tc es wy ab re_n go be ++ [(q_8, .inl (cI, 24, .inl gp)), (q_13, .inl (cI, 24, .inl gn))]) := hD
                  have hr8 := rT_shs hrt c9 f1 f2
                  refine lv_iinc (v := nI (g + 1)) (lv' := [(1, .int (nI (g + 1))), (0, .ref (b 0)), (2, .ref q_8), (3, .ref q_13), (4, .int (nI y3))]) hx hb dX4_shrinkAll_166 hl (k := 1) rfl (zz_inc g 1) (by decide) rfl (fun ls hl => ?_)
                  refine lv_iinc (v := nI (y3 + 1)) (lv' := [(4, .int (nI (y3 + 1))), (1, .int (nI (g + 1))), (0, .ref (b 0)), (2, .ref q_8), (3, .ref q_13)]) hx hb dX4_shrinkAll_169 hl (k := 4) rfl (zz_inc y3 1) (by decide) rfl (fun ls hl => ?_)
                  refine lv_goto (tgt := 96) hx hb dX4_shrinkAll_172 (by decide) ?_
                  exact ih_96 (y3 + 1) (g + 1) (upd gb y3 (gp y3)) (upd ge y3 (gn y3)) _ _ _ (by first | assumption | omega) hr8 (by rw [hs]; simp only [it, shN]; rw [hc8]; rfl) (by omega) hP hD hS (lv_sub hl [2, 1, 3, 4, 0] rfl)
                · skip
                  have c7 : T 0 y3 = ff ((US nk nc fo th tg T nt up) y3) nc := by rw [f1, hry.1] at c_6; exact ((nI_eq (by omega) (by omega)).mp c_6).symm
                  refine lv_aload_n hx hb dX4_shrinkAll_127 rfl (lv_at hl 3 rfl) ?_
                  refine lv_iload hx hb dX4_shrinkAll_128 (lv_at hl 4 rfl) ?_
                  refine va_iald hx hb hK hP 14 0 rfl rfl (vp_in_nI (n := y3) (by omega) (by decide)) dX4_shrinkAll_130 ?_
                  refine zz_top (y := gn y3) (congrArg _ (nI_clamp (by omega))) ?_
                  refine lv_aload_n hx hb dX4_shrinkAll_131 rfl (lv_at hl 0 rfl) ?_
                  refine va_get (D := (dC, dI)) (ci := 4) (v := .ref (b 6)) (C := RX4) (T := TX4) (N := 20) hx hb hts (by decide +kernel) hown hK hP 0 rfl rfl 9 (by decide) (hts (.fieldLink RX4 29 "HandlerOptimizerModel" "tos" "[I") (by decide +kernel)) (fun _ h9 => h9) rfl dX4_shrinkAll_132 ?_
                  refine lv_iload hx hb dX4_shrinkAll_135 (lv_at hl 4 rfl) ?_
                  refine va_iald hx hb hK hP 6 0 rfl rfl (vp_in_nI (n := y3) (by omega) (by decide)) dX4_shrinkAll_137 ?_
                  refine zz_top (y := ge y3) (congrArg _ (nI_clamp (by omega))) ?_
                  refine lv_icmp_ne (tgt := 144) hx hb dX4_shrinkAll_138 (by decide) (fun c_7 => ?_) (fun c_7 => ?_)
                  · skip
                    have c6 : ¬ T 1 y3 = lb ((US nk nc fo th tg T nt up) y3) nc := fun q => by rw [f2, hry.2.1, q] at c_7; exact c_7 rfl
                    have hc8 : shC (US nk nc fo th tg T nt up) nc T y3 = true := by simp [shC, c9, c6]
                    refine lv_aload_n hx hb dX4_shrinkAll_144 rfl (lv_at hl 0 rfl) ?_
                    refine va_get (D := (dC, dI)) (ci := 4) (v := .ref (b 5)) (C := RX4) (T := TX4) (N := 20) hx hb hts (by decide +kernel) hown hK hP 0 rfl rfl 8 (by decide) (hts (.fieldLink RX4 26 "HandlerOptimizerModel" "froms" "[I") (by decide +kernel)) (fun _ h9 => h9) rfl dX4_shrinkAll_145 ?_
                    refine lv_iload hx hb dX4_shrinkAll_148 (lv_at hl 4 rfl) ?_
                    refine lv_aload_n hx hb dX4_shrinkAll_150 rfl (lv_at hl 2 rfl) ?_
                    refine lv_iload hx hb dX4_shrinkAll_151 (lv_at hl 4 rfl) ?_
                    refine va_iald hx hb hK hP 13 0 rfl rfl (vp_in_nI (n := y3) (by omega) (by decide)) dX4_shrinkAll_153 ?_
                    refine zz_top (y := gp y3) (congrArg _ (nI_clamp (by omega))) ?_
                    refine va_iast hx hb hK hP hD hS 5 0 rfl rfl (vp_in_nI (n := y3) (by omega) (by decide)) dX4_shrinkAll_154 (fun H locs hP hD hS => ?_)
                    rw [nI_clamp (n := y3) (by omega)] at hP hD
                    have hP : va_P (dC, dI) vwCl (w4 b cI cZ tw nk pa nc fo th tg nt (upd gb y3 (gp y3)) ge tk tt ex tc es wy ab re_n go be ++ [(q_8, .inl (cI, 24, .inl gp)), (q_13, .inl (cI, 24, .inl gn))]) H := hP
                    have hD : va_D A (w4 b cI cZ tw nk pa nc fo th tg nt (upd gb y3 (gp y3)) ge tk tt ex tc es wy ab re_n go be ++ [(q_8, .inl (cI, 24, .inl gp)), (q_13, .inl (cI, 24, .inl gn))]) := hD
                    refine lv_aload_n hx hb dX4_shrinkAll_155 rfl (lv_at hl 0 rfl) ?_
                    refine va_get (D := (dC, dI)) (ci := 4) (v := .ref (b 6)) (C := RX4) (T := TX4) (N := 20) hx hb hts (by decide +kernel) hown hK hP 0 rfl rfl 9 (by decide) (hts (.fieldLink RX4 29 "HandlerOptimizerModel" "tos" "[I") (by decide +kernel)) (fun _ h9 => h9) rfl dX4_shrinkAll_156 ?_
                    refine lv_iload hx hb dX4_shrinkAll_159 (lv_at hl 4 rfl) ?_
                    refine lv_aload_n hx hb dX4_shrinkAll_161 rfl (lv_at hl 3 rfl) ?_
                    refine lv_iload hx hb dX4_shrinkAll_162 (lv_at hl 4 rfl) ?_
                    refine va_iald hx hb hK hP 14 0 rfl rfl (vp_in_nI (n := y3) (by omega) (by decide)) dX4_shrinkAll_164 ?_
                    refine zz_top (y := gn y3) (congrArg _ (nI_clamp (by omega))) ?_
                    refine va_iast hx hb hK hP hD hS 6 0 rfl rfl (vp_in_nI (n := y3) (by omega) (by decide)) dX4_shrinkAll_165 (fun H locs hP hD hS => ?_)
                    rw [nI_clamp (n := y3) (by omega)] at hP hD
                    have hP : va_P (dC, dI) vwCl (w4 b cI cZ tw nk pa nc fo th tg nt (upd gb y3 (gp y3)) (upd ge y3 (gn y3)) tk tt ex tc es wy ab re_n go be ++ [(q_8, .inl (cI, 24, .inl gp)), (q_13, .inl (cI, 24, .inl gn))]) H := hP
                    have hD : va_D A (w4 b cI cZ tw nk pa nc fo th tg nt (upd gb y3 (gp y3)) (upd ge y3 (gn y3)) tk tt ex tc es wy ab re_n go be ++ [(q_8, .inl (cI, 24, .inl gp)), (q_13, .inl (cI, 24, .inl gn))]) := hD
                    have hr8 := rT_shs hrt c9 f1 f2
                    refine lv_iinc (v := nI (g + 1)) (lv' := [(1, .int (nI (g + 1))), (0, .ref (b 0)), (2, .ref q_8), (3, .ref q_13), (4, .int (nI y3))]) hx hb dX4_shrinkAll_166 hl (k := 1) rfl (zz_inc g 1) (by decide) rfl (fun ls hl => ?_)
                    refine lv_iinc (v := nI (y3 + 1)) (lv' := [(4, .int (nI (y3 + 1))), (1, .int (nI (g + 1))), (0, .ref (b 0)), (2, .ref q_8), (3, .ref q_13)]) hx hb dX4_shrinkAll_169 hl (k := 4) rfl (zz_inc y3 1) (by decide) rfl (fun ls hl => ?_)
                    refine lv_goto (tgt := 96) hx hb dX4_shrinkAll_172 (by decide) ?_
                    exact ih_96 (y3 + 1) (g + 1) (upd gb y3 (gp y3)) (upd ge y3 (gn y3)) _ _ _ (by first | assumption | omega) hr8 (by rw [hs]; simp only [it, shN]; rw [hc8]; rfl) (by omega) hP hD hS (lv_sub hl [2, 1, 3, 4, 0] rfl)
                  · skip
                    have c6 : T 1 y3 = lb ((US nk nc fo th tg T nt up) y3) nc := by rw [f2, hry.2.1] at c_7; exact ((nI_eq (by omega) (by omega)).mp c_7).symm
                    have hr8 := rT_shk hrt (shT_ti c7 c6)
                    have hc8 : shC (US nk nc fo th tg T nt up) nc T y3 = false := by simp [shC, c7, c6]
                    refine lv_goto (tgt := 169) hx hb dX4_shrinkAll_141 (by decide) ?_
                    refine lv_iinc (v := nI (y3 + 1)) (lv' := [(4, .int (nI (y3 + 1))), (0, .ref (b 0)), (1, .int (nI g)), (2, .ref q_8), (3, .ref q_13)]) hx hb dX4_shrinkAll_169 hl (k := 4) rfl (zz_inc y3 1) (by decide) rfl (fun ls hl => ?_)
                    refine lv_goto (tgt := 96) hx hb dX4_shrinkAll_172 (by decide) ?_
                    exact ih_96 (y3 + 1) g gb ge _ _ _ (by first | assumption | omega) hr8 (by rw [hs]; simp only [it, shN]; rw [hc8]; rfl) (by omega) hP hD hS (lv_sub hl [1, 2, 3, 4, 0] rfl)
        exact J_96 _ 0 0 tb te _ _ _ (by first | assumption | omega) (by rw [shY_0]; exact hT) rfl (Nat.lt_succ_self _) hP hD hS (lv_sub hl [1, 2, 3, 4, 0] rfl)
      · skip
        have c_3 := (zz_gef (a := y) (b := nt) (by omega) (by omega)).mp c_3
        refine lv_aload_n hx hb dX4_shrinkAll_28 rfl (lv_at hl 2 rfl) ?_
        refine lv_iload hx hb dX4_shrinkAll_29 (lv_at hl 4 rfl) ?_
        refine lv_iconst (v := -1) hx hb dX4_shrinkAll_31 (by decide) ?_
        refine va_iast hx hb hK hP hD hS 13 0 rfl rfl (vp_in_nI (n := y) (by omega) (by decide)) dX4_shrinkAll_32 (fun H locs hP hD hS => ?_)
        rw [nI_clamp (n := y) (by omega)] at hP hD
        have hP : va_P (dC, dI) vwCl (w4 b cI cZ tw nk pa nc fo th tg nt tb te tk tt ex tc es wy ab re_n go be ++ [(q_8, .inl (cI, 24, .inl (upd gp y (-1)))), (q_13, .inl (cI, 24, .inl gn))]) H := hP
        have hD : va_D A (w4 b cI cZ tw nk pa nc fo th tg nt tb te tk tt ex tc es wy ab re_n go be ++ [(q_8, .inl (cI, 24, .inl (upd gp y (-1)))), (q_13, .inl (cI, 24, .inl gn))]) := hD
        refine lv_iconst (v := 0) hx hb dX4_shrinkAll_33 (by decide) ?_
        refine lv_istore (lv' := [(5, .int 0), (0, .ref (b 0)), (1, .int 0), (2, .ref q_8), (3, .ref q_13), (4, .int (nI y))]) hx hb dX4_shrinkAll_34 hl (by decide) rfl (fun ls hl => ?_)
        have J_36 : ∀ (n9 : Nat) (z : Nat) (gp2 : Nat → Int32) (gn2 : Nat → Int32) (H : Heap) (locs : List Loc) (ls : Array Slot), (z ≤ nc) → (∀ e, e < y → uB (US nk nc fo th tg T nt up) nc gp2 gn2 e) → (∀ e, y < e → gn2 e = 0) → (uB (US nk nc fo th tg T nt up) z gp2 gn2 y) → nc - z < n9 → va_P (dC, dI) vwCl (w4 b cI cZ tw nk pa nc fo th tg nt tb te tk tt ex tc es wy ab re_n go be ++ [(q_8, .inl (cI, 24, .inl gp2)), (q_13, .inl (cI, 24, .inl gn2))]) H → va_D A (w4 b cI cZ tw nk pa nc fo th tg nt tb te tk tt ex tc es wy ab re_n go be ++ [(q_8, .inl (cI, 24, .inl gp2)), (q_13, .inl (cI, 24, .inl gn2))]) → va_S A s.heap H locs → lv_has ls 6 [(0, .ref (b 0)), (1, .int 0), (2, .ref q_8), (3, .ref q_13), (4, .int (nI y)), (5, .int (nI z))] → W p l e (headSpec wsX4_shrinkAll ({ frames := 4, cells := 2, slots := 48, locals := 90 } : Room)).room s m args below meth c H locs 2 48 Q (F0 m 36 ls []) := by
          intro n9
          induction n9 with
          | zero => intro z gp2 gn2 H locs ls hz hb8 h08 hub hmu; exact absurd hmu (Nat.not_lt_zero _)
          | succ n9 ih_36 =>
            intro z gp2 gn2 H locs ls hz hb8 h08 hub hmu hP hD hS hl
            refine lv_iload hx hb dX4_shrinkAll_36 (lv_at hl 5 rfl) ?_
            refine lv_aload_n hx hb dX4_shrinkAll_38 rfl (lv_at hl 0 rfl) ?_
            refine va_get (D := (dC, dI)) (ci := 4) (v := .int (nI nc)) (C := RX4) (T := TX4) (N := 20) hx hb hts (by decide +kernel) hown hK hP 0 rfl rfl 3 (by decide) (hts (.fieldLink RX4 61 "HandlerOptimizerModel" "size" "I") (by decide +kernel)) (fun _ h9 => h9) rfl dX4_shrinkAll_39 ?_
            refine lv_icmp_ge (tgt := 87) hx hb dX4_shrinkAll_42 (by decide) (fun c_8 => ?_) (fun c_8 => ?_)
            · skip
              have c_8 := (zz_get (a := z) (b := nc) (by omega) (by omega)).mp c_8
              refine lv_iinc (v := nI (y + 1)) (lv' := [(4, .int (nI (y + 1))), (0, .ref (b 0)), (1, .int 0), (2, .ref q_8), (3, .ref q_13), (5, .int (nI z))]) hx hb dX4_shrinkAll_87 hl (k := 4) rfl (zz_inc y 1) (by decide) rfl (fun ls hl => ?_)
              refine lv_goto (tgt := 19) hx hb dX4_shrinkAll_90 (by decide) ?_
              exact ih_19 (y + 1) gp2 gn2 _ _ _ (by first | assumption | omega) (lt_s hb8 (by rw [show z = nc from by omega] at hub; exact hub)) (fun e he => h08 e (by omega)) (by omega) hP hD hS (lv_sub hl [1, 2, 3, 4, 0] rfl)
            · skip
              have c_8 := (zz_gef (a := z) (b := nc) (by omega) (by omega)).mp c_8
              refine lv_aload_n hx hb dX4_shrinkAll_45 rfl (lv_at hl 0 rfl) ?_
              refine lv_iload hx hb dX4_shrinkAll_46 (lv_at hl 4 rfl) ?_
              refine lv_iload hx hb dX4_shrinkAll_48 (lv_at hl 5 rfl) ?_
              have hPc := hP.sub (ws' := w4 b cI cZ tw nk pa nc fo th tg nt tb te tk tt ex tc es wy ab re_n go be) [0, 1, 2, 3, 4, 5, 6, 7, 8, 9, 10, 11, 12] rfl
              refine va_calli (va_runV (As := [.int (nI y), .int (nI z)]) (rest := []) ⟨hx, hb, hml, hown, hts⟩ (c_X4_takes l dC dI cI cZ cJ b tw nk pa nc fo th tg nt tb te tk tt ex tc es wy ab re_n go be y z T up (RB nk nc fo th tg T nt up) (by first | assumption | omega) (by first | assumption | omega) (by omega) (by omega) (hre)) (cwV 2 hts gX4_shrinkAll_X4_takes rfl rfl rfl (by decide +kernel) ⟨Nat.le_of_ble_eq_true rfl, Nat.le_of_ble_eq_true rfl⟩) ⟨zPre_blind, va_recv hK hPc (ci := 4) (q0 := 0) rfl rfl, zPre_at hPc hK hn⟩ rfl rfl hl.1 rfl (lv_room (Nat.le_of_ble_eq_true rfl)) dX4_shrinkAll_50 ⟨Nat.le_of_ble_eq_true rfl, Nat.le_of_ble_eq_true rfl⟩) hS (fun _ _ h => h.elim) (fun _ h => h.elim) (fun r_9 u_9 t H locs ht hvm hw hB hz1 hk1 hS => ?_)
              have hP := zkeep hP hk1
              subst hw
              refine lv_if_ne (tgt := 59) hx hb dX4_shrinkAll_53 (by decide) (fun c_10 => ?_) (fun c_10 => ?_)
              · skip
                have c9 : (US nk nc fo th tg T nt up) y z = true := zb_1.mp c_10
                refine lv_aload_n hx hb dX4_shrinkAll_59 rfl (lv_at hl 2 rfl) ?_
                refine lv_iload hx hb dX4_shrinkAll_60 (lv_at hl 4 rfl) ?_
                refine va_iald hx hb hK hP 13 0 rfl rfl (vp_in_nI (n := y) (by omega) (by decide)) dX4_shrinkAll_62 ?_
                refine zz_top (y := gp2 y) (congrArg _ (nI_clamp (by omega))) ?_
                refine lv_iconst (v := -1) hx hb dX4_shrinkAll_63 (by decide) ?_
                refine lv_icmp_ne (tgt := 73) hx hb dX4_shrinkAll_64 (by decide) (fun c_11 => ?_) (fun c_11 => ?_)
                · skip
                  have c8 := c_11
                  refine lv_aload_n hx hb dX4_shrinkAll_73 rfl (lv_at hl 3 rfl) ?_
                  refine lv_iload hx hb dX4_shrinkAll_74 (lv_at hl 4 rfl) ?_
                  refine lv_iload hx hb dX4_shrinkAll_76 (lv_at hl 5 rfl) ?_
                  refine lv_iconst (v := 1) hx hb dX4_shrinkAll_78 (by decide) ?_
                  refine lv_iadd hx hb dX4_shrinkAll_79 ?_
                  refine zz_top (y := nI (z + 1)) (nI_add _ _) ?_
                  refine va_iast hx hb hK hP hD hS 14 0 rfl rfl (vp_in_nI (n := y) (by omega) (by decide)) dX4_shrinkAll_80 (fun H locs hP hD hS => ?_)
                  rw [nI_clamp (n := y) (by omega)] at hP hD
                  have hP : va_P (dC, dI) vwCl (w4 b cI cZ tw nk pa nc fo th tg nt tb te tk tt ex tc es wy ab re_n go be ++ [(q_8, .inl (cI, 24, .inl gp2)), (q_13, .inl (cI, 24, .inl (upd gn2 y (nI (z + 1)))))]) H := hP
                  have hD : va_D A (w4 b cI cZ tw nk pa nc fo th tg nt tb te tk tt ex tc es wy ab re_n go be ++ [(q_8, .inl (cI, 24, .inl gp2)), (q_13, .inl (cI, 24, .inl (upd gn2 y (nI (z + 1)))))]) := hD
                  refine lv_iinc (v := nI (z + 1)) (lv' := [(5, .int (nI (z + 1))), (0, .ref (b 0)), (1, .int 0), (2, .ref q_8), (3, .ref q_13), (4, .int (nI y))]) hx hb dX4_shrinkAll_81 hl (k := 5) rfl (zz_inc z 1) (by decide) rfl (fun ls hl => ?_)
                  refine lv_goto (tgt := 36) hx hb dX4_shrinkAll_84 (by decide) ?_
                  exact ih_36 (z + 1) gp2 (upd gn2 y (nI (z + 1))) _ _ _ (by first | assumption | omega) (by intro e he; first | exact hb8 e he | exact uB_o (hb8 e he) (by simp [upd, show ¬ e = y by omega]) (by simp [upd, show ¬ e = y by omega]) | exact uB_o (hb8 e he) rfl (by simp [upd, show ¬ e = y by omega])) (by intro e he; first | exact h08 e he | (simp only [upd, if_neg (show ¬ e = y by omega)]; exact h08 e he)) (by first | exact uB_f hub c9 | (have q := uB_t hub c9 (by omega); rw [if_pos c8] at q; exact q) | (have q := uB_t hub c9 (by omega); rw [if_neg c8] at q; exact q)) (by omega) hP hD hS (lv_sub hl [1, 2, 3, 4, 5, 0] rfl)
                · skip
                  have c8 := c_11
                  refine lv_aload_n hx hb dX4_shrinkAll_67 rfl (lv_at hl 2 rfl) ?_
                  refine lv_iload hx hb dX4_shrinkAll_68 (lv_at hl 4 rfl) ?_
                  refine lv_iload hx hb dX4_shrinkAll_70 (lv_at hl 5 rfl) ?_
                  refine va_iast hx hb hK hP hD hS 13 0 rfl rfl (vp_in_nI (n := y) (by omega) (by decide)) dX4_shrinkAll_72 (fun H locs hP hD hS => ?_)
                  rw [nI_clamp (n := y) (by omega)] at hP hD
                  have hP : va_P (dC, dI) vwCl (w4 b cI cZ tw nk pa nc fo th tg nt tb te tk tt ex tc es wy ab re_n go be ++ [(q_8, .inl (cI, 24, .inl (upd gp2 y (nI z)))), (q_13, .inl (cI, 24, .inl gn2))]) H := hP
                  have hD : va_D A (w4 b cI cZ tw nk pa nc fo th tg nt tb te tk tt ex tc es wy ab re_n go be ++ [(q_8, .inl (cI, 24, .inl (upd gp2 y (nI z)))), (q_13, .inl (cI, 24, .inl gn2))]) := hD
                  refine lv_aload_n hx hb dX4_shrinkAll_73 rfl (lv_at hl 3 rfl) ?_
                  refine lv_iload hx hb dX4_shrinkAll_74 (lv_at hl 4 rfl) ?_
                  refine lv_iload hx hb dX4_shrinkAll_76 (lv_at hl 5 rfl) ?_
                  refine lv_iconst (v := 1) hx hb dX4_shrinkAll_78 (by decide) ?_
                  refine lv_iadd hx hb dX4_shrinkAll_79 ?_
                  refine zz_top (y := nI (z + 1)) (nI_add _ _) ?_
                  refine va_iast hx hb hK hP hD hS 14 0 rfl rfl (vp_in_nI (n := y) (by omega) (by decide)) dX4_shrinkAll_80 (fun H locs hP hD hS => ?_)
                  rw [nI_clamp (n := y) (by omega)] at hP hD
                  have hP : va_P (dC, dI) vwCl (w4 b cI cZ tw nk pa nc fo th tg nt tb te tk tt ex tc es wy ab re_n go be ++ [(q_8, .inl (cI, 24, .inl (upd gp2 y (nI z)))), (q_13, .inl (cI, 24, .inl (upd gn2 y (nI (z + 1)))))]) H := hP
                  have hD : va_D A (w4 b cI cZ tw nk pa nc fo th tg nt tb te tk tt ex tc es wy ab re_n go be ++ [(q_8, .inl (cI, 24, .inl (upd gp2 y (nI z)))), (q_13, .inl (cI, 24, .inl (upd gn2 y (nI (z + 1)))))]) := hD
                  refine lv_iinc (v := nI (z + 1)) (lv' := [(5, .int (nI (z + 1))), (0, .ref (b 0)), (1, .int 0), (2, .ref q_8), (3, .ref q_13), (4, .int (nI y))]) hx hb dX4_shrinkAll_81 hl (k := 5) rfl (zz_inc z 1) (by decide) rfl (fun ls hl => ?_)
                  refine lv_goto (tgt := 36) hx hb dX4_shrinkAll_84 (by decide) ?_
                  exact ih_36 (z + 1) (upd gp2 y (nI z)) (upd gn2 y (nI (z + 1))) _ _ _ (by first | assumption | omega) (by intro e he; first | exact hb8 e he | exact uB_o (hb8 e he) (by simp [upd, show ¬ e = y by omega]) (by simp [upd, show ¬ e = y by omega]) | exact uB_o (hb8 e he) rfl (by simp [upd, show ¬ e = y by omega])) (by intro e he; first | exact h08 e he | (simp only [upd, if_neg (show ¬ e = y by omega)]; exact h08 e he)) (by first | exact uB_f hub c9 | (have q := uB_t hub c9 (by omega); rw [if_pos c8] at q; exact q) | (have q := uB_t hub c9 (by omega); rw [if_neg c8] at q; exact q)) (by omega) hP hD hS (lv_sub hl [1, 2, 3, 4, 5, 0] rfl)
              · skip
                have c9 : (US nk nc fo th tg T nt up) y z = false := zb_0.mp c_10
                refine lv_goto (tgt := 81) hx hb dX4_shrinkAll_56 (by decide) ?_
                refine lv_iinc (v := nI (z + 1)) (lv' := [(5, .int (nI (z + 1))), (0, .ref (b 0)), (1, .int 0), (2, .ref q_8), (3, .ref q_13), (4, .int (nI y))]) hx hb dX4_shrinkAll_81 hl (k := 5) rfl (zz_inc z 1) (by decide) rfl (fun ls hl => ?_)
                refine lv_goto (tgt := 36) hx hb dX4_shrinkAll_84 (by decide) ?_
                exact ih_36 (z + 1) gp2 gn2 _ _ _ (by first | assumption | omega) (by intro e he; first | exact hb8 e he | exact uB_o (hb8 e he) (by simp [upd, show ¬ e = y by omega]) (by simp [upd, show ¬ e = y by omega]) | exact uB_o (hb8 e he) rfl (by simp [upd, show ¬ e = y by omega])) (by intro e he; first | exact h08 e he | (simp only [upd, if_neg (show ¬ e = y by omega)]; exact h08 e he)) (by first | exact uB_f hub c9 | (have q := uB_t hub c9 (by omega); rw [if_pos c8] at q; exact q) | (have q := uB_t hub c9 (by omega); rw [if_neg c8] at q; exact q)) (by omega) hP hD hS (lv_sub hl [1, 2, 3, 4, 5, 0] rfl)
        exact J_36 _ 0 (upd gp y (-1)) gn _ _ _ (by first | assumption | omega) (fun e he => uB_o (hb9 e he) (by simp [upd, show ¬ e = y by omega]) rfl) (fun e he => h09 e (by omega)) (uB_0 (by simp [upd]) (h09 y (Nat.le_refl _))) (Nat.lt_succ_self _) hP hD hS (lv_sub hl [1, 2, 3, 4, 5, 0] rfl)
  exact J_19 _ 0 (fun _ => 0) (fun _ => 0) _ _ _ (by first | assumption | omega) lt_0 (fun e _ => rfl) (Nat.lt_succ_self _) hP hD hS (lv_sub hl [4, 3, 2, 1, 0] rfl)

set_option maxHeartbeats 4000000 in
set_option maxRecDepth 100000 in
theorem c_X4_remember (l : Launch) (dC : Nat → ClassId) (dI : Nat → Nat → Nat) (cI cZ cJ : ClassId) (b : Nat → Nat) (tw : Int32) (nk : Nat) (pa : Nat → Int32) (nc : Nat) (fo : Nat → Int32) (th : Nat → Int32) (tg : Nat → Int32) (nt : Nat) (tb : Nat → Int32) (te : Nat → Int32) (tk : Nat → Int32) (tt : Nat → Int32) (ex : Int32) (tc : Int32) (es : Int32) (wy : Int64) (ab : Nat → Int32) (re : Nat → Int32) (go : Nat → Int32) (be : Nat → Int32) (T : Nat → Nat → Nat) (up : Nat → Nat → Bool) (sz : Nat) (hg : g4 nk ab up nt tb te tk tt T) (hc : okC nk nc fo th tg) : Met l yX4_remember wsX4_remember ({ frames := 3, cells := 0, slots := 0, locals := 67 } : Room) (va_Pc [.ref (b 0)] (zWr (dC, dI) [(cI, .int), (cZ, .boolean), (cJ, .long)] (w4 b cI cZ tw nk pa nc fo th tg nt tb te tk tt ex tc es wy ab re go be) sz)) (va_Qv (fun (go9 : Nat → Int32) => gO nc nk go9 (gl T nt up)) (fun go9 t => zWo (dC, dI) [(cI, .int), (cZ, .boolean), (cJ, .long)] (w4 b cI cZ tw nk pa nc fo th tg nt tb te tk tt ex tc es wy ab re go9 be) (va_A (w4 b cI cZ tw nk pa nc fo th tg nt tb te tk tt ex tc es wy ab re go be) sz) t) (va_A (w4 b cI cZ tw nk pa nc fo th tg nt tb te tk tt ex tc es wy ab re go be) sz)) 0 0 (va_A (w4 b cI cZ tw nk pa nc fo th tg nt tb te tk tt ex tc es wy ab re go be) sz) := by
  refine Met.ofW (cc := cX4_remember) (maxL := 3) (ret := none) (by decide) rfl ?_
  intro p e s m args below meth c s₁ B hml hv
  obtain ⟨hav, hsz, ⟨hP, hK, hn⟩, hD0⟩ := hv
  have hx := B.exec
  have hb := B.bytes
  have hr := B.returns
  have hts := atoms_spec (ws := wsX4_remember) B.pre
  have hown : s.vm.findClass RX4 = some m.cls := findClass_of_methodNamed B.named
  have hlocks := B.notSynchronized
  subst hsz
  have hD := hD0.self (sz := s.heap.size)
  generalize hAe : (va_A (w4 b cI cZ tw nk pa nc fo th tg nt tb te tk tt ex tc es wy ab re go be) s.heap.size) = A at hD ⊢
  have hA : ∀ q : Nat, s.heap.size ≤ q → A q := fun q h => by rw [← hAe]; exact Or.inr h
  have hS : va_S A s.heap s.heap [] := va_S.rf
  generalize hQ : MQ below (va_Qv (fun (go9 : Nat → Int32) => gO nc nk go9 (gl T nt up)) (fun go9 t => zWo (dC, dI) [(cI, .int), (cZ, .boolean), (cJ, .long)] (w4 b cI cZ tw nk pa nc fo th tg nt tb te tk tt ex tc es wy ab re go9 be) A t) A) args s 0 0 A = Q
  refine W.eq (g2 := entryFrame m ([.ref (b 0)] : List Value).toArray 3) (by rw [hav]) ?_
  have hl := lv_entry ([.ref (b 0)]) (n := 3) (Nat.le_of_ble_eq_true rfl)
  rw [lg_entry_eq]
  generalize (lg_sl ([.ref (b 0)]) ++ List.replicate (3 - (lg_sl ([.ref (b 0)])).length) Slot.unset).toArray = ls at hl ⊢
  have hl : lv_has ls 3 [(0, .ref (b 0))] := hl
  obtain ⟨H, hH⟩ : ∃ H, H = s.heap := ⟨_, rfl⟩
  obtain ⟨locs, hlo⟩ : ∃ q : List Loc, q = [] := ⟨_, rfl⟩
  have hP : va_P (dC, dI) vwCl (w4 b cI cZ tw nk pa nc fo th tg nt tb te tk tt ex tc es wy ab re go be) H := by rw [hH]; exact hP
  have hS : va_S A s.heap H locs := by rw [hH, hlo]; exact hS
  refine zz_hl hH hlo ?_
  obtain ⟨hk01, hk8, hnt, hT, hO, hF, hU⟩ := id hg
  obtain ⟨hnc, hC⟩ := id hc
  refine lv_iconst (v := 0) hx hb dX4_remember_0 (by decide) ?_
  refine lv_istore_n (lv' := [(1, .int 0), (0, .ref (b 0))]) hx hb dX4_remember_1 rfl hl (by decide) rfl (fun ls hl => ?_)
  have J_2 : ∀ (n9 : Nat) (y : Nat) (gg : Nat → Int32) (H : Heap) (locs : List Loc) (ls : Array Slot), (y ≤ nc) → (gY y 0 nk gg (gl T nt up)) → nc - y < n9 → va_P (dC, dI) vwCl (w4 b cI cZ tw nk pa nc fo th tg nt tb te tk tt ex tc es wy ab re gg be) H → va_D A (w4 b cI cZ tw nk pa nc fo th tg nt tb te tk tt ex tc es wy ab re gg be) → va_S A s.heap H locs → lv_has ls 3 [(0, .ref (b 0)), (1, .int (nI y))] → W p l e (headSpec wsX4_remember ({ frames := 3, cells := 0, slots := 0, locals := 67 } : Room)).room s m args below meth c H locs 0 0 Q (F0 m 2 ls []) := by
    intro n9
    induction n9 with
    | zero => intro y gg H locs ls hy hq hmu; exact absurd hmu (Nat.not_lt_zero _)
    | succ n9 ih_2 =>
      intro y gg H locs ls hy hq hmu hP hD hS hl
      refine lv_iload_n hx hb dX4_remember_2 rfl (lv_at hl 1 rfl) ?_
      refine lv_aload_n hx hb dX4_remember_3 rfl (lv_at hl 0 rfl) ?_
      refine va_get (D := (dC, dI)) (ci := 4) (v := .int (nI nc)) (C := RX4) (T := TX4) (N := 20) hx hb hts (by decide +kernel) hown hK hP 0 rfl rfl 3 (by decide) (hts (.fieldLink RX4 61 "HandlerOptimizerModel" "size" "I") (by decide +kernel)) (fun _ h9 => h9) rfl dX4_remember_4 ?_
      refine lv_icmp_ge (tgt := 49) hx hb dX4_remember_7 (by decide) (fun c_1 => ?_) (fun c_1 => ?_)
      · skip
        have c_1 := (zz_get (a := y) (b := nc) (by omega) (by omega)).mp c_1
        rw [← hQ]
        have hP9 := hP
        have hD9 := hD
        exact W.vret hx hb hr (fun t ht hW => ⟨⟨gg, rfl, (fun i hi k hk => hq i k hk (Or.inl (by omega))), (by rw [ht]; exact hP9), va_K.moved hW.alike hK, hD9⟩, hS.F ht⟩) hS.2.2 dX4_remember_49
      · skip
        have c_1 := (zz_gef (a := y) (b := nc) (by omega) (by omega)).mp c_1
        refine lv_iconst (v := 0) hx hb dX4_remember_10 (by decide) ?_
        refine lv_istore_n (lv' := [(2, .int 0), (0, .ref (b 0)), (1, .int (nI y))]) hx hb dX4_remember_11 rfl hl (by decide) rfl (fun ls hl => ?_)
        have J_12 : ∀ (n9 : Nat) (z : Nat) (gg2 : Nat → Int32) (H : Heap) (locs : List Loc) (ls : Array Slot), (z ≤ nk) → (gY y z nk gg2 (gl T nt up)) → nk - z < n9 → va_P (dC, dI) vwCl (w4 b cI cZ tw nk pa nc fo th tg nt tb te tk tt ex tc es wy ab re gg2 be) H → va_D A (w4 b cI cZ tw nk pa nc fo th tg nt tb te tk tt ex tc es wy ab re gg2 be) → va_S A s.heap H locs → lv_has ls 3 [(0, .ref (b 0)), (1, .int (nI y)), (2, .int (nI z))] → W p l e (headSpec wsX4_remember ({ frames := 3, cells := 0, slots := 0, locals := 67 } : Room)).room s m args below meth c H locs 0 0 Q (F0 m 12 ls []) := by
          intro n9
          induction n9 with
          | zero => intro z gg2 H locs ls hz hq2 hmu; exact absurd hmu (Nat.not_lt_zero _)
          | succ n9 ih_12 =>
            intro z gg2 H locs ls hz hq2 hmu hP hD hS hl
            refine lv_iload_n hx hb dX4_remember_12 rfl (lv_at hl 2 rfl) ?_
            refine lv_aload_n hx hb dX4_remember_13 rfl (lv_at hl 0 rfl) ?_
            refine va_get (D := (dC, dI)) (ci := 4) (v := .int (nI nk)) (C := RX4) (T := TX4) (N := 20) hx hb hts (by decide +kernel) hown hK hP 0 rfl rfl 1 (by decide) (hts (.fieldLink RX4 7 "HandlerOptimizerModel" "kinds" "I") (by decide +kernel)) (fun _ h9 => h9) rfl dX4_remember_14 ?_
            refine lv_icmp_ge (tgt := 43) hx hb dX4_remember_17 (by decide) (fun c_2 => ?_) (fun c_2 => ?_)
            · skip
              have c_2 := (zz_get (a := z) (b := nk) (by omega) (by omega)).mp c_2
              refine lv_iinc (v := nI (y + 1)) (lv' := [(1, .int (nI (y + 1))), (0, .ref (b 0)), (2, .int (nI z))]) hx hb dX4_remember_43 hl (k := 1) rfl (zz_inc y 1) (by decide) rfl (fun ls hl => ?_)
              refine lv_goto (tgt := 2) hx hb dX4_remember_46 (by decide) ?_
              exact ih_2 (y + 1) gg2 _ _ _ (by first | assumption | omega) (gY_n hq2 (by omega)) (by omega) hP hD hS (lv_sub hl [1, 0] rfl)
            · skip
              have c_2 := (zz_gef (a := z) (b := nk) (by omega) (by omega)).mp c_2
              refine lv_aload_n hx hb dX4_remember_20 rfl (lv_at hl 0 rfl) ?_
              refine va_get (D := (dC, dI)) (ci := 4) (v := .ref (b 11)) (C := RX4) (T := TX4) (N := 20) hx hb hts (by decide +kernel) hown hK hP 0 rfl rfl 18 (by decide) (hts (.fieldLink RX4 48 "HandlerOptimizerModel" "goals" "[I") (by decide +kernel)) (fun _ h9 => h9) rfl dX4_remember_21 ?_
              refine lv_bipush (v := 8) hx hb dX4_remember_24 (by decide) ?_
              refine lv_iload_n hx hb dX4_remember_26 rfl (lv_at hl 1 rfl) ?_
              refine lv_imul hx hb dX4_remember_27 ?_
              refine zz_top (y := nI (8 * y)) (zz_mul _ _) ?_
              refine lv_iload_n hx hb dX4_remember_28 rfl (lv_at hl 2 rfl) ?_
              refine lv_iadd hx hb dX4_remember_29 ?_
              refine zz_top (y := nI ((8 * y) + z)) (nI_add _ _) ?_
              refine lv_aload_n hx hb dX4_remember_30 rfl (lv_at hl 0 rfl) ?_
              refine lv_iload_n hx hb dX4_remember_31 rfl (lv_at hl 1 rfl) ?_
              refine lv_iload_n hx hb dX4_remember_32 rfl (lv_at hl 2 rfl) ?_
              refine va_calli (va_runV (As := [.int (nI y), .int (nI z)]) (rest := [.int (nI ((8 * y) + z)), .ref (b 11)]) ⟨hx, hb, hml, hown, hts⟩ (c_X4_goal l dC dI cI cZ cJ b tw nk pa nc fo th tg nt tb te tk tt ex tc es wy ab re gg2 be y z T up (by first | assumption | omega) (by first | assumption | omega) (by omega) (by omega)) (cwV 2 hts gX4_remember_X4_goal rfl rfl rfl (by decide +kernel) ⟨Nat.le_of_ble_eq_true rfl, Nat.le_of_ble_eq_true rfl⟩) ⟨zPre_blind, va_recv hK hP (ci := 4) (q0 := 0) rfl rfl, zPre_at hP hK hn⟩ rfl rfl hl.1 rfl (lv_room (Nat.le_of_ble_eq_true rfl)) dX4_remember_33 ⟨Nat.le_of_ble_eq_true rfl, Nat.le_of_ble_eq_true rfl⟩) hS (fun _ _ h => h.elim) (fun _ h => h.elim) (fun r_3 u_9 t H locs ht hvm hw hB hz1 hk1 hS => ?_)
              have hP := zkeep hP hk1
              subst hw
              refine va_iast hx hb hK hP hD hS 11 0 rfl rfl (vp_in_nI (n := (8 * y) + z) (by omega) (by decide)) dX4_remember_36 (fun H locs hP hD hS => ?_)
              rw [nI_clamp (n := (8 * y) + z) (by omega)] at hP hD
              have hP : va_P (dC, dI) vwCl (w4 b cI cZ tw nk pa nc fo th tg nt tb te tk tt ex tc es wy ab re (upd gg2 ((8 * y) + z) (gl T nt up y z)) be) H := hP
              have hD : va_D A (w4 b cI cZ tw nk pa nc fo th tg nt tb te tk tt ex tc es wy ab re (upd gg2 ((8 * y) + z) (gl T nt up y z)) be) := hD
              refine lv_iinc (v := nI (z + 1)) (lv' := [(2, .int (nI (z + 1))), (0, .ref (b 0)), (1, .int (nI y))]) hx hb dX4_remember_37 hl (k := 2) rfl (zz_inc z 1) (by decide) rfl (fun ls hl => ?_)
              refine lv_goto (tgt := 12) hx hb dX4_remember_40 (by decide) ?_
              exact ih_12 (z + 1) (upd gg2 ((8 * y) + z) (gl T nt up y z)) _ _ _ (by first | assumption | omega) (by rw [Nat.mul_comm 8 y]; exact gY_s hq2 hk8 (by omega)) (by omega) hP hD hS (lv_sub hl [1, 2, 0] rfl)
        exact J_12 _ 0 gg _ _ _ (by first | assumption | omega) hq (Nat.lt_succ_self _) hP hD hS (lv_sub hl [1, 2, 0] rfl)
  exact J_2 _ 0 go _ _ _ (by first | assumption | omega) (fun i k _ h => by omega) (Nat.lt_succ_self _) hP hD hS (lv_sub hl [1, 0] rfl)

set_option maxHeartbeats 4000000 in
set_option maxRecDepth 100000 in
theorem c_X4_isAsBefore (l : Launch) (dC : Nat → ClassId) (dI : Nat → Nat → Nat) (cI cZ cJ : ClassId) (b : Nat → Nat) (tw : Int32) (nk : Nat) (pa : Nat → Int32) (nc : Nat) (fo : Nat → Int32) (th : Nat → Int32) (tg : Nat → Int32) (nt : Nat) (tb : Nat → Int32) (te : Nat → Int32) (tk : Nat → Int32) (tt : Nat → Int32) (ex : Int32) (tc : Int32) (es : Int32) (wy : Int64) (ab : Nat → Int32) (re : Nat → Int32) (go : Nat → Int32) (be : Nat → Int32) (T : Nat → Nat → Nat) (up : Nat → Nat → Bool) (G : Nat → Nat → Int32) (v : Nat → Bool) (hg : g4 nk ab up nt tb te tk tt T) (hc : okC nk nc fo th tg) (hre : ∀ j, j < 48 → re j = bI (v j)) (hgo : gO nc nk go G) : Met l yX4_isAsBefore wsX4_isAsBefore ({ frames := 3, cells := 0, slots := 0, locals := 67 } : Room) (va_Pc [.ref (b 0)] (zPre (dC, dI) [(cI, .int), (cZ, .boolean), (cJ, .long)] (w4 b cI cZ tw nk pa nc fo th tg nt tb te tk tt ex tc es wy ab re go be))) (va_Qi (fun (r : Int32) (_ : Unit) => r = bI (kpA v th nk nc (gl T nt up) G)) (fun _ _ => True) (fun _ => False)) 0 0 (fun _ => False) := by
  refine Met.ofW (cc := cX4_isAsBefore) (maxL := 4) (ret := (some .boolean)) (by decide) rfl ?_
  intro p e s m args below meth c s₁ B hml hv
  obtain ⟨hav, hP, hK, hn⟩ := hv
  have hx := B.exec
  have hb := B.bytes
  have hr := B.returns
  have hts := atoms_spec (ws := wsX4_isAsBefore) B.pre
  have hown : s.vm.findClass RX4 = some m.cls := findClass_of_methodNamed B.named
  have hlocks := B.notSynchronized
  have hS : va_S (fun _ => False) s.heap s.heap [] := va_S.rf
  generalize hQ : MQ below (va_Qi (fun (r : Int32) (_ : Unit) => r = bI (kpA v th nk nc (gl T nt up) G)) (fun _ _ => True) (fun _ => False)) args s 0 0 (fun _ => False) = Q
  refine W.eq (g2 := entryFrame m ([.ref (b 0)] : List Value).toArray 4) (by rw [hav]) ?_
  have hl := lv_entry ([.ref (b 0)]) (n := 4) (Nat.le_of_ble_eq_true rfl)
  rw [lg_entry_eq]
  generalize (lg_sl ([.ref (b 0)]) ++ List.replicate (4 - (lg_sl ([.ref (b 0)])).length) Slot.unset).toArray = ls at hl ⊢
  have hl : lv_has ls 4 [(0, .ref (b 0))] := hl
  obtain ⟨H, hH⟩ : ∃ H, H = s.heap := ⟨_, rfl⟩
  obtain ⟨locs, hlo⟩ : ∃ q : List Loc, q = [] := ⟨_, rfl⟩
  have hP : va_P (dC, dI) vwCl (w4 b cI cZ tw nk pa nc fo th tg nt tb te tk tt ex tc es wy ab re go be) H := by rw [hH]; exact hP
  have hS : va_S (fun _ => False) s.heap H locs := by rw [hH, hlo]; exact hS
  refine zz_hl hH hlo ?_
  obtain ⟨hk01, hk8, hnt, hT, hO, hF, hU⟩ := id hg
  obtain ⟨hnc, hC⟩ := id hc
  refine lv_iconst (v := 1) hx hb dX4_isAsBefore_0 (by decide) ?_
  refine lv_istore_n (lv' := [(1, .int 1), (0, .ref (b 0))]) hx hb dX4_isAsBefore_1 rfl hl (by decide) rfl (fun ls hl => ?_)
  refine lv_iconst (v := 0) hx hb dX4_isAsBefore_2 (by decide) ?_
  refine lv_istore_n (lv' := [(2, .int 0), (1, .int 1), (0, .ref (b 0))]) hx hb dX4_isAsBefore_3 rfl hl (by decide) rfl (fun ls hl => ?_)
  have J_4 : ∀ (n9 : Nat) (y : Nat) (ib : Bool) (H : Heap) (locs : List Loc) (ls : Array Slot), (y ≤ nc) → (ib = al (kp v th nk (gl T nt up) G) y) → nc - y < n9 → va_P (dC, dI) vwCl (w4 b cI cZ tw nk pa nc fo th tg nt tb te tk tt ex tc es wy ab re go be) H → va_S (fun _ => False) s.heap H locs → lv_has ls 4 [(0, .ref (b 0)), (1, .int (bI ib)), (2, .int (nI y))] → W p l e (headSpec wsX4_isAsBefore ({ frames := 3, cells := 0, slots := 0, locals := 67 } : Room)).room s m args below meth c H locs 0 0 Q (F0 m 4 ls []) := by
    intro n9
    induction n9 with
    | zero => intro y ib H locs ls hy hib hmu; exact absurd hmu (Nat.not_lt_zero _)
    | succ n9 ih_4 =>
      intro y ib H locs ls hy hib hmu hP hS hl
      refine lv_iload_n hx hb dX4_isAsBefore_4 rfl (lv_at hl 2 rfl) ?_
      refine lv_aload_n hx hb dX4_isAsBefore_5 rfl (lv_at hl 0 rfl) ?_
      refine va_get (D := (dC, dI)) (ci := 4) (v := .int (nI nc)) (C := RX4) (T := TX4) (N := 20) hx hb hts (by decide +kernel) hown hK hP 0 rfl rfl 3 (by decide) (hts (.fieldLink RX4 61 "HandlerOptimizerModel" "size" "I") (by decide +kernel)) (fun _ h9 => h9) rfl dX4_isAsBefore_6 ?_
      refine lv_icmp_ge (tgt := 90) hx hb dX4_isAsBefore_9 (by decide) (fun c_1 => ?_) (fun c_1 => ?_)
      · skip
        have c6 := (zz_get (a := y) (b := nc) (by omega) (by omega)).mp c_1
        refine lv_iload_n hx hb dX4_isAsBefore_90 rfl (lv_at hl 1 rfl) ?_
        rw [← hQ]
        exact W.zret (v := bI ib) hx hb hr (zz_nb _) (fun t ht hW => ⟨⟨bI ib, (), rfl, (by rw [hib]; first | (rw [show y = nc from by omega]; rfl) | (rw [← hib, c12, kpA, al_ff (by rw [← hib]; exact c12) hy])), trivial⟩, hS.F ht⟩) hS.2.2 dX4_isAsBefore_91
      · skip
        have c_1 := (zz_gef (a := y) (b := nc) (by omega) (by omega)).mp c_1
        refine lv_iload_n hx hb dX4_isAsBefore_12 rfl (lv_at hl 1 rfl) ?_
        refine lv_if_eq (tgt := 90) hx hb dX4_isAsBefore_13 (by decide) (fun c_2 => ?_) (fun c_2 => ?_)
        · skip
          have c12 := zb_0.mp c_2
          refine lv_iload_n hx hb dX4_isAsBefore_90 rfl (lv_at hl 1 rfl) ?_
          rw [← hQ]
          exact W.zret (v := bI ib) hx hb hr (zz_nb _) (fun t ht hW => ⟨⟨bI ib, (), rfl, (by rw [hib]; first | (rw [show y = nc from by omega]; rfl) | (rw [← hib, c12, kpA, al_ff (by rw [← hib]; exact c12) hy])), trivial⟩, hS.F ht⟩) hS.2.2 dX4_isAsBefore_91
        · skip
          have c12 := zb_1.mp c_2
          refine lv_iconst (v := 0) hx hb dX4_isAsBefore_16 (by decide) ?_
          refine lv_istore_n (lv' := [(3, .int 0), (0, .ref (b 0)), (1, .int (bI ib)), (2, .int (nI y))]) hx hb dX4_isAsBefore_17 rfl hl (by decide) rfl (fun ls hl => ?_)
          have J_18 : ∀ (n9 : Nat) (z : Nat) (jb : Bool) (H : Heap) (locs : List Loc) (ls : Array Slot), (z ≤ nk) → (jb = al (fun k => !(v y && bt (th y) k) || decide (gl T nt up y k = G y k)) z) → nk - z < n9 → va_P (dC, dI) vwCl (w4 b cI cZ tw nk pa nc fo th tg nt tb te tk tt ex tc es wy ab re go be) H → va_S (fun _ => False) s.heap H locs → lv_has ls 4 [(0, .ref (b 0)), (1, .int (bI jb)), (2, .int (nI y)), (3, .int (nI z))] → W p l e (headSpec wsX4_isAsBefore ({ frames := 3, cells := 0, slots := 0, locals := 67 } : Room)).room s m args below meth c H locs 0 0 Q (F0 m 18 ls []) := by
            intro n9
            induction n9 with
            | zero => intro z jb H locs ls hz hjb hmu; exact absurd hmu (Nat.not_lt_zero _)
            | succ n9 ih_18 =>
              intro z jb H locs ls hz hjb hmu hP hS hl
              refine lv_iload_n hx hb dX4_isAsBefore_18 rfl (lv_at hl 3 rfl) ?_
              refine lv_aload_n hx hb dX4_isAsBefore_19 rfl (lv_at hl 0 rfl) ?_
              refine va_get (D := (dC, dI)) (ci := 4) (v := .int (nI nk)) (C := RX4) (T := TX4) (N := 20) hx hb hts (by decide +kernel) hown hK hP 0 rfl rfl 1 (by decide) (hts (.fieldLink RX4 7 "HandlerOptimizerModel" "kinds" "I") (by decide +kernel)) (fun _ h9 => h9) rfl dX4_isAsBefore_20 ?_
              refine lv_icmp_ge (tgt := 84) hx hb dX4_isAsBefore_23 (by decide) (fun c_3 => ?_) (fun c_3 => ?_)
              · skip
                have c1 := (zz_get (a := z) (b := nk) (by omega) (by omega)).mp c_3
                have hib9 : jb = al (kp v th nk (gl T nt up) G) (y + 1) := by rw [al_and, ← hib, c12, hjb, show z = nk from by omega]; rfl
                refine lv_iinc (v := nI (y + 1)) (lv' := [(2, .int (nI (y + 1))), (0, .ref (b 0)), (1, .int (bI jb)), (3, .int (nI z))]) hx hb dX4_isAsBefore_84 hl (k := 2) rfl (zz_inc y 1) (by decide) rfl (fun ls hl => ?_)
                refine lv_goto (tgt := 4) hx hb dX4_isAsBefore_87 (by decide) ?_
                exact ih_4 (y + 1) jb _ _ _ (by first | assumption | omega) hib9 (by omega) hP hS (lv_sub hl [1, 2, 0] rfl)
              · skip
                have c1 := (zz_gef (a := z) (b := nk) (by omega) (by omega)).mp c_3
                refine lv_aload_n hx hb dX4_isAsBefore_26 rfl (lv_at hl 0 rfl) ?_
                refine va_get (D := (dC, dI)) (ci := 4) (v := .ref (b 10)) (C := RX4) (T := TX4) (N := 20) hx hb hts (by decide +kernel) hown hK hP 0 rfl rfl 17 (by decide) (hts (.fieldLink RX4 44 "HandlerOptimizerModel" "areReached" "[Z") (by decide +kernel)) (fun _ h9 => h9) rfl dX4_isAsBefore_27 ?_
                refine lv_iload_n hx hb dX4_isAsBefore_30 rfl (lv_at hl 2 rfl) ?_
                refine va_zald hx hb hK hP 10 1 rfl rfl (vp_in_nI (n := y) (by omega) (by decide)) dX4_isAsBefore_31 ?_
                refine zz_top (y := re y) (congrArg _ (nI_clamp (by omega))) ?_
                refine zz_top (y := bI (v y)) (hre y (by omega)) ?_
                refine lv_if_eq (tgt := 84) hx hb dX4_isAsBefore_32 (by decide) (fun c_4 => ?_) (fun c_4 => ?_)
                · skip
                  have c10 := zb_0.mp c_4
                  have hib9 : jb = al (kp v th nk (gl T nt up) G) (y + 1) := by
                    rw [al_and, ← hib, c12, hjb, al_iff.mpr (fun k _ => by simp [c10])]
                    show true = (true && al _ nk)
                    rw [al_iff.mpr (fun k _ => by simp [c10])]; rfl
                  refine lv_iinc (v := nI (y + 1)) (lv' := [(2, .int (nI (y + 1))), (0, .ref (b 0)), (1, .int (bI jb)), (3, .int (nI z))]) hx hb dX4_isAsBefore_84 hl (k := 2) rfl (zz_inc y 1) (by decide) rfl (fun ls hl => ?_)
                  refine lv_goto (tgt := 4) hx hb dX4_isAsBefore_87 (by decide) ?_
                  exact ih_4 (y + 1) jb _ _ _ (by first | assumption | omega) hib9 (by omega) hP hS (lv_sub hl [1, 2, 0] rfl)
                · skip
                  have c10 := zb_1.mp c_4
                  refine lv_iload_n hx hb dX4_isAsBefore_35 rfl (lv_at hl 1 rfl) ?_
                  refine lv_if_eq (tgt := 84) hx hb dX4_isAsBefore_36 (by decide) (fun c_5 => ?_) (fun c_5 => ?_)
                  · skip
                    have c11 := zb_0.mp c_5
                    have hib9 : jb = al (kp v th nk (gl T nt up) G) (y + 1) := by
                      rw [al_and, ← hib, c12, c11]
                      show false = (true && al _ nk)
                      rw [al_ff (by rw [← hjb]; exact c11) hz]; rfl
                    refine lv_iinc (v := nI (y + 1)) (lv' := [(2, .int (nI (y + 1))), (0, .ref (b 0)), (1, .int (bI jb)), (3, .int (nI z))]) hx hb dX4_isAsBefore_84 hl (k := 2) rfl (zz_inc y 1) (by decide) rfl (fun ls hl => ?_)
                    refine lv_goto (tgt := 4) hx hb dX4_isAsBefore_87 (by decide) ?_
                    exact ih_4 (y + 1) jb _ _ _ (by first | assumption | omega) hib9 (by omega) hP hS (lv_sub hl [1, 2, 0] rfl)
                  · skip
                    have c11 := zb_1.mp c_5
                    refine lv_aload_n hx hb dX4_isAsBefore_39 rfl (lv_at hl 0 rfl) ?_
                    refine va_get (D := (dC, dI)) (ci := 4) (v := .ref (b 3)) (C := RX4) (T := TX4) (N := 20) hx hb hts (by decide +kernel) hown hK hP 0 rfl rfl 5 (by decide) (hts (.fieldLink RX4 20 "HandlerOptimizerModel" "errors" "[I") (by decide +kernel)) (fun _ h9 => h9) rfl dX4_isAsBefore_40 ?_
                    refine lv_iload_n hx hb dX4_isAsBefore_43 rfl (lv_at hl 2 rfl) ?_
                    refine va_iald hx hb hK hP 3 0 rfl rfl (vp_in_nI (n := y) (by omega) (by decide)) dX4_isAsBefore_44 ?_
                    refine zz_top (y := th y) (congrArg _ (nI_clamp (by omega))) ?_
                    refine lv_iload_n hx hb dX4_isAsBefore_45 rfl (lv_at hl 3 rfl) ?_
                    have hPc : va_P (dC, dI) vwCl [] H := fun k q h => by simp at h
                    refine va_calli (va_runS (As := [.int (th y), .int (nI z)]) (rest := []) ⟨hx, hb, hml, hown, hts⟩ (c_X4_has l dC dI cI cZ cJ (th y) z (by omega)) (va_cwS 2 hts gX4_isAsBefore_X4_has rfl rfl rfl (by decide +kernel) ⟨Nat.le_of_ble_eq_true rfl, Nat.le_of_ble_eq_true rfl⟩) ⟨zPre_blind, zPre_at hPc hK hn⟩ rfl rfl hl.1 rfl (lv_room (Nat.le_of_ble_eq_true rfl)) dX4_isAsBefore_46 ⟨Nat.le_of_ble_eq_true rfl, Nat.le_of_ble_eq_true rfl⟩) hS (fun _ _ h => h.elim) (fun _ h => h.elim) (fun r_6 u_9 t H locs ht hvm hw hB hz1 hk1 hS => ?_)
                    have hP := zkeep hP hk1
                    subst hw
                    refine lv_if_eq (tgt := 72) hx hb dX4_isAsBefore_49 (by decide) (fun c_7 => ?_) (fun c_7 => ?_)
                    · skip
                      have c8 := zb_0.mp c_7
                      refine lv_iconst (v := 1) hx hb dX4_isAsBefore_72 (by decide) ?_
                      refine lv_goto (tgt := 77) hx hb dX4_isAsBefore_73 (by decide) ?_
                      refine lv_istore_n (lv' := [(1, .int 1), (0, .ref (b 0)), (2, .int (nI y)), (3, .int (nI z))]) hx hb dX4_isAsBefore_77 rfl hl (by decide) rfl (fun ls hl => ?_)
                      refine lv_iinc (v := nI (z + 1)) (lv' := [(3, .int (nI (z + 1))), (1, .int 1), (0, .ref (b 0)), (2, .int (nI y))]) hx hb dX4_isAsBefore_78 hl (k := 3) rfl (zz_inc z 1) (by decide) rfl (fun ls hl => ?_)
                      refine lv_goto (tgt := 18) hx hb dX4_isAsBefore_81 (by decide) ?_
                      exact ih_18 (z + 1) true _ _ _ (by first | assumption | omega) (by rw [al_and, ← hjb, c11]; show _ = (true && (!(v y && bt (th y) z) || decide (gl T nt up y z = G y z))); first | (rw [c8, Bool.and_false]; rfl) | (rw [decide_eq_true c7, Bool.or_true]; rfl) | (rw [c10, c8, decide_eq_false c7]; rfl)) (by omega) hP hS (lv_sub hl [2, 1, 3, 0] rfl)
                    · skip
                      have c8 := zb_1.mp c_7
                      refine lv_aload_n hx hb dX4_isAsBefore_52 rfl (lv_at hl 0 rfl) ?_
                      refine va_get (D := (dC, dI)) (ci := 4) (v := .ref (b 11)) (C := RX4) (T := TX4) (N := 20) hx hb hts (by decide +kernel) hown hK hP 0 rfl rfl 18 (by decide) (hts (.fieldLink RX4 48 "HandlerOptimizerModel" "goals" "[I") (by decide +kernel)) (fun _ h9 => h9) rfl dX4_isAsBefore_53 ?_
                      refine lv_bipush (v := 8) hx hb dX4_isAsBefore_56 (by decide) ?_
                      refine lv_iload_n hx hb dX4_isAsBefore_58 rfl (lv_at hl 2 rfl) ?_
                      refine lv_imul hx hb dX4_isAsBefore_59 ?_
                      refine zz_top (y := nI (8 * y)) (zz_mul _ _) ?_
                      refine lv_iload_n hx hb dX4_isAsBefore_60 rfl (lv_at hl 3 rfl) ?_
                      refine lv_iadd hx hb dX4_isAsBefore_61 ?_
                      refine zz_top (y := nI ((8 * y) + z)) (nI_add _ _) ?_
                      refine va_iald hx hb hK hP 11 0 rfl rfl (vp_in_nI (n := (8 * y) + z) (by omega) (by decide)) dX4_isAsBefore_62 ?_
                      refine zz_top (y := go ((8 * y) + z)) (congrArg _ (nI_clamp (by omega))) ?_
                      refine zz_top (y := G y z) (by rw [Nat.mul_comm 8 y]; exact hgo y (by omega) z (by omega)) ?_
                      refine lv_aload_n hx hb dX4_isAsBefore_63 rfl (lv_at hl 0 rfl) ?_
                      refine lv_iload_n hx hb dX4_isAsBefore_64 rfl (lv_at hl 2 rfl) ?_
                      refine lv_iload_n hx hb dX4_isAsBefore_65 rfl (lv_at hl 3 rfl) ?_
                      refine va_calli (va_runV (As := [.int (nI y), .int (nI z)]) (rest := [.int (G y z)]) ⟨hx, hb, hml, hown, hts⟩ (c_X4_goal l dC dI cI cZ cJ b tw nk pa nc fo th tg nt tb te tk tt ex tc es wy ab re go be y z T up (by first | assumption | omega) (by first | assumption | omega) (by omega) (by omega)) (cwV 2 hts gX4_isAsBefore_X4_goal rfl rfl rfl (by decide +kernel) ⟨Nat.le_of_ble_eq_true rfl, Nat.le_of_ble_eq_true rfl⟩) ⟨zPre_blind, va_recv hK hP (ci := 4) (q0 := 0) rfl rfl, zPre_at hP hK hn⟩ rfl rfl hl.1 rfl (lv_room (Nat.le_of_ble_eq_true rfl)) dX4_isAsBefore_66 ⟨Nat.le_of_ble_eq_true rfl, Nat.le_of_ble_eq_true rfl⟩) hS (fun _ _ h => h.elim) (fun _ h => h.elim) (fun r_8 u_9 t H locs ht hvm hw hB hz1 hk1 hS => ?_)
                      have hP := zkeep hP hk1
                      subst hw
                      refine lv_icmp_ne (tgt := 76) hx hb dX4_isAsBefore_69 (by decide) (fun c_9 => ?_) (fun c_9 => ?_)
                      · skip
                        have c7 : ¬ gl T nt up y z = G y z := fun q => c_9 q.symm
                        refine lv_iconst (v := 0) hx hb dX4_isAsBefore_76 (by decide) ?_
                        refine lv_istore_n (lv' := [(1, .int 0), (0, .ref (b 0)), (2, .int (nI y)), (3, .int (nI z))]) hx hb dX4_isAsBefore_77 rfl hl (by decide) rfl (fun ls hl => ?_)
                        refine lv_iinc (v := nI (z + 1)) (lv' := [(3, .int (nI (z + 1))), (1, .int 0), (0, .ref (b 0)), (2, .int (nI y))]) hx hb dX4_isAsBefore_78 hl (k := 3) rfl (zz_inc z 1) (by decide) rfl (fun ls hl => ?_)
                        refine lv_goto (tgt := 18) hx hb dX4_isAsBefore_81 (by decide) ?_
                        exact ih_18 (z + 1) false _ _ _ (by first | assumption | omega) (by rw [al_and, ← hjb, c11]; show _ = (true && (!(v y && bt (th y) z) || decide (gl T nt up y z = G y z))); first | (rw [c8, Bool.and_false]; rfl) | (rw [decide_eq_true c7, Bool.or_true]; rfl) | (rw [c10, c8, decide_eq_false c7]; rfl)) (by omega) hP hS (lv_sub hl [2, 1, 3, 0] rfl)
                      · skip
                        have c7 : gl T nt up y z = G y z := (c_9).symm
                        refine lv_iconst (v := 1) hx hb dX4_isAsBefore_72 (by decide) ?_
                        refine lv_goto (tgt := 77) hx hb dX4_isAsBefore_73 (by decide) ?_
                        refine lv_istore_n (lv' := [(1, .int 1), (0, .ref (b 0)), (2, .int (nI y)), (3, .int (nI z))]) hx hb dX4_isAsBefore_77 rfl hl (by decide) rfl (fun ls hl => ?_)
                        refine lv_iinc (v := nI (z + 1)) (lv' := [(3, .int (nI (z + 1))), (1, .int 1), (0, .ref (b 0)), (2, .int (nI y))]) hx hb dX4_isAsBefore_78 hl (k := 3) rfl (zz_inc z 1) (by decide) rfl (fun ls hl => ?_)
                        refine lv_goto (tgt := 18) hx hb dX4_isAsBefore_81 (by decide) ?_
                        exact ih_18 (z + 1) true _ _ _ (by first | assumption | omega) (by rw [al_and, ← hjb, c11]; show _ = (true && (!(v y && bt (th y) z) || decide (gl T nt up y z = G y z))); first | (rw [c8, Bool.and_false]; rfl) | (rw [decide_eq_true c7, Bool.or_true]; rfl) | (rw [c10, c8, decide_eq_false c7]; rfl)) (by omega) hP hS (lv_sub hl [2, 1, 3, 0] rfl)
          exact J_18 _ 0 ib _ _ _ (by first | assumption | omega) (by rw [c12]; rfl) (Nat.lt_succ_self _) hP hS (lv_sub hl [1, 2, 3, 0] rfl)
  exact J_4 _ 0 true _ _ _ (by first | assumption | omega) rfl (Nat.lt_succ_self _) hP hS (lv_sub hl [2, 1, 0] rfl)

set_option maxHeartbeats 4000000 in
set_option maxRecDepth 100000 in
theorem c_X4_tryJoin (l : Launch) (dC : Nat → ClassId) (dI : Nat → Nat → Nat) (cI cZ cJ : ClassId) (b : Nat → Nat) (tw : Int32) (nk : Nat) (pa : Nat → Int32) (nc : Nat) (fo : Nat → Int32) (th : Nat → Int32) (tg : Nat → Int32) (nt : Nat) (tb : Nat → Int32) (te : Nat → Int32) (tk : Nat → Int32) (tt : Nat → Int32) (ex : Int32) (tc : Int32) (es : Int32) (wy : Int64) (ab : Nat → Int32) (re : Nat → Int32) (go : Nat → Int32) (be : Nat → Int32) (x1 : Nat) (x2 : Nat) (pl : Nat) (go2 : Nat) (T : Nat → Nat → Nat) (up : Nat → Nat → Bool) (G : Nat → Nat → Int32) (v : Nat → Bool) (sz : Nat) (hg : g4 nk ab up nt tb te tk tt T) (hc : okC nk nc fo th tg) (h1 : x1 < nt) (h2 : x2 < nt) (h12 : ¬ x1 = x2) (hpl : pl = x1 ∧ go2 = x2 ∨ pl = x2 ∧ go2 = x1) (h3 : T 3 x1 = T 3 x2) (hre : ∀ j, j < 48 → re j = bI (v j)) (hgo : gO nc nk go G) : Met l yX4_tryJoin wsX4_tryJoin ({ frames := 4, cells := 0, slots := 0, locals := 90 } : Room) (va_Pc [.ref (b 0), .int (nI x1), .int (nI x2), .int (nI pl)] (zWr (dC, dI) [(cI, .int), (cZ, .boolean), (cJ, .long)] (w4 b cI cZ tw nk pa nc fo th tg nt tb te tk tt ex tc es wy ab re go be) sz)) (va_Qi (fun (r : Int32) (u : Nat × (Nat → Int32) × (Nat → Int32) × (Nat → Int32) × (Nat → Int32) × (Nat → Int32)) => match u with | (nt9, tb9, te9, tk9, tt9, be9) => r = bI (kq v th nk nc up G T nt pl go2) ∧ nt9 = (if (kq v th nk nc up G T nt pl go2) then nt - 1 else nt) ∧ g4 nk ab up nt9 tb9 te9 tk9 tt9 (if (kq v th nk nc up G T nt pl go2) then jT T up nk pl go2 else T)) (fun u t => match u with | (nt9, tb9, te9, tk9, tt9, be9) => zWo (dC, dI) [(cI, .int), (cZ, .boolean), (cJ, .long)] (w4 b cI cZ tw nk pa nc fo th tg nt9 tb9 te9 tk9 tt9 ex tc es wy ab re go be9) (va_A (w4 b cI cZ tw nk pa nc fo th tg nt tb te tk tt ex tc es wy ab re go be) sz) t) (va_A (w4 b cI cZ tw nk pa nc fo th tg nt tb te tk tt ex tc es wy ab re go be) sz)) 0 0 (va_A (w4 b cI cZ tw nk pa nc fo th tg nt tb te tk tt ex tc es wy ab re go be) sz) := by
  refine Met.ofW (cc := cX4_tryJoin) (maxL := 6) (ret := (some .boolean)) (by decide) rfl ?_
  intro p e s m args below meth c s₁ B hml hv
  obtain ⟨hav, hsz, ⟨hP, hK, hn⟩, hD0⟩ := hv
  have hx := B.exec
  have hb := B.bytes
  have hr := B.returns
  have hts := atoms_spec (ws := wsX4_tryJoin) B.pre
  have hown : s.vm.findClass RX4 = some m.cls := findClass_of_methodNamed B.named
  have hlocks := B.notSynchronized
  subst hsz
  have hD := hD0.self (sz := s.heap.size)
  generalize hAe : (va_A (w4 b cI cZ tw nk pa nc fo th tg nt tb te tk tt ex tc es wy ab re go be) s.heap.size) = A at hD ⊢
  have hA : ∀ q : Nat, s.heap.size ≤ q → A q := fun q h => by rw [← hAe]; exact Or.inr h
  have hS : va_S A s.heap s.heap [] := va_S.rf
  generalize hQ : MQ below (va_Qi (fun (r : Int32) (u : Nat × (Nat → Int32) × (Nat → Int32) × (Nat → Int32) × (Nat → Int32) × (Nat → Int32)) => match u with | (nt9, tb9, te9, tk9, tt9, be9) => r = bI (kq v th nk nc up G T nt pl go2) ∧ nt9 = (if (kq v th nk nc up G T nt pl go2) then nt - 1 else nt) ∧ g4 nk ab up nt9 tb9 te9 tk9 tt9 (if (kq v th nk nc up G T nt pl go2) then jT T up nk pl go2 else T)) (fun u t => match u with | (nt9, tb9, te9, tk9, tt9, be9) => zWo (dC, dI) [(cI, .int), (cZ, .boolean), (cJ, .long)] (w4 b cI cZ tw nk pa nc fo th tg nt9 tb9 te9 tk9 tt9 ex tc es wy ab re go be9) A t) A) args s 0 0 A = Q
  refine W.eq (g2 := entryFrame m ([.ref (b 0), .int (nI x1), .int (nI x2), .int (nI pl)] : List Value).toArray 6) (by rw [hav]) ?_
  have hl := lv_entry ([.ref (b 0), .int (nI x1), .int (nI x2), .int (nI pl)]) (n := 6) (Nat.le_of_ble_eq_true rfl)
  rw [lg_entry_eq]
  generalize (lg_sl ([.ref (b 0), .int (nI x1), .int (nI x2), .int (nI pl)]) ++ List.replicate (6 - (lg_sl ([.ref (b 0), .int (nI x1), .int (nI x2), .int (nI pl)])).length) Slot.unset).toArray = ls at hl ⊢
  have hl : lv_has ls 6 [(0, .ref (b 0)), (1, .int (nI x1)), (2, .int (nI x2)), (3, .int (nI pl))] := hl
  obtain ⟨H, hH⟩ : ∃ H, H = s.heap := ⟨_, rfl⟩
  obtain ⟨locs, hlo⟩ : ∃ q : List Loc, q = [] := ⟨_, rfl⟩
  have hP : va_P (dC, dI) vwCl (w4 b cI cZ tw nk pa nc fo th tg nt tb te tk tt ex tc es wy ab re go be) H := by rw [hH]; exact hP
  have hS : va_S A s.heap H locs := by rw [hH, hlo]; exact hS
  refine zz_hl hH hlo ?_
  obtain ⟨hk01, hk8, hnt, hT, hO, hF, hU⟩ := id hg
  obtain ⟨hnc, hC⟩ := id hc
  obtain ⟨o10, o11, o12, o13⟩ := hO x1 h1
  obtain ⟨o20, o21, o22, o23⟩ := hO x2 h2
  have hplt : pl < nt := by omega
  have hgol : go2 < nt := by omega
  refine lv_iconst (v := 0) hx hb dX4_tryJoin_0 (by decide) ?_
  refine lv_istore (lv' := [(4, .int 0), (0, .ref (b 0)), (1, .int (nI x1)), (2, .int (nI x2)), (3, .int (nI pl))]) hx hb dX4_tryJoin_1 hl (by decide) rfl (fun ls hl => ?_)
  have J_3 : ∀ (n9 : Nat) (y : Nat) (gb0 : Nat → Int32) (H : Heap) (locs : List Loc) (ls : Array Slot), (y ≤ nt) → (bY y 0 gb0 T) → nt - y < n9 → va_P (dC, dI) vwCl (w4 b cI cZ tw nk pa nc fo th tg nt tb te tk tt ex tc es wy ab re go gb0) H → va_D A (w4 b cI cZ tw nk pa nc fo th tg nt tb te tk tt ex tc es wy ab re go gb0) → va_S A s.heap H locs → lv_has ls 6 [(0, .ref (b 0)), (1, .int (nI x1)), (2, .int (nI x2)), (3, .int (nI pl)), (4, .int (nI y))] → W p l e (headSpec wsX4_tryJoin ({ frames := 4, cells := 0, slots := 0, locals := 90 } : Room)).room s m args below meth c H locs 0 0 Q (F0 m 3 ls []) := by
    intro n9
    induction n9 with
    | zero => intro y gb0 H locs ls hy hq hmu; exact absurd hmu (Nat.not_lt_zero _)
    | succ n9 ih_3 =>
      intro y gb0 H locs ls hy hq hmu hP hD hS hl
      refine lv_iload hx hb dX4_tryJoin_3 (lv_at hl 4 rfl) ?_
      refine lv_aload_n hx hb dX4_tryJoin_5 rfl (lv_at hl 0 rfl) ?_
      refine va_get (D := (dC, dI)) (ci := 4) (v := .int (nI nt)) (C := RX4) (T := TX4) (N := 20) hx hb hts (by decide +kernel) hown hK hP 0 rfl rfl 7 (by decide) (hts (.fieldLink RX4 64 "HandlerOptimizerModel" "entries" "I") (by decide +kernel)) (fun _ h9 => h9) rfl dX4_tryJoin_6 ?_
      refine lv_icmp_ge (tgt := 99) hx hb dX4_tryJoin_9 (by decide) (fun c_1 => ?_) (fun c_1 => ?_)
      · skip
        have c_1 := (zz_get (a := y) (b := nt) (by omega) (by omega)).mp c_1
        refine lv_aload_n hx hb dX4_tryJoin_99 rfl (lv_at hl 0 rfl) ?_
        refine lv_iload_n hx hb dX4_tryJoin_100 rfl (lv_at hl 3 rfl) ?_
        refine lv_aload_n hx hb dX4_tryJoin_101 rfl (lv_at hl 0 rfl) ?_
        refine va_get (D := (dC, dI)) (ci := 4) (v := .ref (b 5)) (C := RX4) (T := TX4) (N := 20) hx hb hts (by decide +kernel) hown hK hP 0 rfl rfl 8 (by decide) (hts (.fieldLink RX4 26 "HandlerOptimizerModel" "froms" "[I") (by decide +kernel)) (fun _ h9 => h9) rfl dX4_tryJoin_102 ?_
        refine lv_iload_n hx hb dX4_tryJoin_105 rfl (lv_at hl 1 rfl) ?_
        refine va_iald hx hb hK hP 5 0 rfl rfl (vp_in_nI (n := x1) (by omega) (by decide)) dX4_tryJoin_106 ?_
        refine zz_top (y := tb x1) (congrArg _ (nI_clamp (by omega))) ?_
        refine zz_top (y := nI (T 0 x1)) ((hT x1 h1).1) ?_
        refine lv_aload_n hx hb dX4_tryJoin_107 rfl (lv_at hl 0 rfl) ?_
        refine va_get (D := (dC, dI)) (ci := 4) (v := .ref (b 5)) (C := RX4) (T := TX4) (N := 20) hx hb hts (by decide +kernel) hown hK hP 0 rfl rfl 8 (by decide) (hts (.fieldLink RX4 26 "HandlerOptimizerModel" "froms" "[I") (by decide +kernel)) (fun _ h9 => h9) rfl dX4_tryJoin_108 ?_
        refine lv_iload_n hx hb dX4_tryJoin_111 rfl (lv_at hl 2 rfl) ?_
        refine va_iald hx hb hK hP 5 0 rfl rfl (vp_in_nI (n := x2) (by omega) (by decide)) dX4_tryJoin_112 ?_
        refine zz_top (y := tb x2) (congrArg _ (nI_clamp (by omega))) ?_
        refine zz_top (y := nI (T 0 x2)) ((hT x2 h2).1) ?_
        refine va_mmin hx hb (by rw [hml]; exact hl.1.symm) (own := RX4) hown (hts (.methodLink RX4 125 Lib.Math.min.name) (by decide +kernel)) (hts (.static Lib.Math.min.name) (by decide +kernel)) (hts (.initialized "java/lang/Math") (by decide +kernel)) (hts (.code Lib.Math.min.name Lib.Math.min.code 2 (some .int)) (by decide +kernel)) (Nat.le_of_ble_eq_true rfl) (Nat.le_of_ble_eq_true rfl) (Nat.zero_le _) (Nat.zero_le _) dX4_tryJoin_113 ?_
        refine zz_top (y := nI (min (T 0 x1) (T 0 x2))) (zz_min (by omega) (by omega)) ?_
        refine lv_aload_n hx hb dX4_tryJoin_116 rfl (lv_at hl 0 rfl) ?_
        refine va_get (D := (dC, dI)) (ci := 4) (v := .ref (b 6)) (C := RX4) (T := TX4) (N := 20) hx hb hts (by decide +kernel) hown hK hP 0 rfl rfl 9 (by decide) (hts (.fieldLink RX4 29 "HandlerOptimizerModel" "tos" "[I") (by decide +kernel)) (fun _ h9 => h9) rfl dX4_tryJoin_117 ?_
        refine lv_iload_n hx hb dX4_tryJoin_120 rfl (lv_at hl 1 rfl) ?_
        refine va_iald hx hb hK hP 6 0 rfl rfl (vp_in_nI (n := x1) (by omega) (by decide)) dX4_tryJoin_121 ?_
        refine zz_top (y := te x1) (congrArg _ (nI_clamp (by omega))) ?_
        refine zz_top (y := nI (T 1 x1)) ((hT x1 h1).2.1) ?_
        refine lv_aload_n hx hb dX4_tryJoin_122 rfl (lv_at hl 0 rfl) ?_
        refine va_get (D := (dC, dI)) (ci := 4) (v := .ref (b 6)) (C := RX4) (T := TX4) (N := 20) hx hb hts (by decide +kernel) hown hK hP 0 rfl rfl 9 (by decide) (hts (.fieldLink RX4 29 "HandlerOptimizerModel" "tos" "[I") (by decide +kernel)) (fun _ h9 => h9) rfl dX4_tryJoin_123 ?_
        refine lv_iload_n hx hb dX4_tryJoin_126 rfl (lv_at hl 2 rfl) ?_
        refine va_iald hx hb hK hP 6 0 rfl rfl (vp_in_nI (n := x2) (by omega) (by decide)) dX4_tryJoin_127 ?_
        refine zz_top (y := te x2) (congrArg _ (nI_clamp (by omega))) ?_
        refine zz_top (y := nI (T 1 x2)) ((hT x2 h2).2.1) ?_
        refine va_mmax hx hb (by rw [hml]; exact hl.1.symm) (own := RX4) hown (hts (.methodLink RX4 130 Lib.Math.max.name) (by decide +kernel)) (hts (.static Lib.Math.max.name) (by decide +kernel)) (hts (.initialized "java/lang/Math") (by decide +kernel)) (hts (.code Lib.Math.max.name Lib.Math.max.code 2 (some .int)) (by decide +kernel)) (Nat.le_of_ble_eq_true rfl) (Nat.le_of_ble_eq_true rfl) (Nat.zero_le _) (Nat.zero_le _) dX4_tryJoin_128 ?_
        refine zz_top (y := nI (max (T 1 x1) (T 1 x2))) (zz_max (by omega) (by omega)) ?_
        refine lv_aload_n hx hb dX4_tryJoin_131 rfl (lv_at hl 0 rfl) ?_
        refine lv_aload_n hx hb dX4_tryJoin_132 rfl (lv_at hl 0 rfl) ?_
        refine va_get (D := (dC, dI)) (ci := 4) (v := .ref (b 7)) (C := RX4) (T := TX4) (N := 20) hx hb hts (by decide +kernel) hown hK hP 0 rfl rfl 10 (by decide) (hts (.fieldLink RX4 32 "HandlerOptimizerModel" "entryKinds" "[I") (by decide +kernel)) (fun _ h9 => h9) rfl dX4_tryJoin_133 ?_
        refine lv_iload_n hx hb dX4_tryJoin_136 rfl (lv_at hl 1 rfl) ?_
        refine va_iald hx hb hK hP 7 0 rfl rfl (vp_in_nI (n := x1) (by omega) (by decide)) dX4_tryJoin_137 ?_
        refine zz_top (y := tk x1) (congrArg _ (nI_clamp (by omega))) ?_
        refine zz_top (y := nI (T 2 x1)) ((hT x1 h1).2.2.1) ?_
        refine lv_aload_n hx hb dX4_tryJoin_138 rfl (lv_at hl 0 rfl) ?_
        refine va_get (D := (dC, dI)) (ci := 4) (v := .ref (b 7)) (C := RX4) (T := TX4) (N := 20) hx hb hts (by decide +kernel) hown hK hP 0 rfl rfl 10 (by decide) (hts (.fieldLink RX4 32 "HandlerOptimizerModel" "entryKinds" "[I") (by decide +kernel)) (fun _ h9 => h9) rfl dX4_tryJoin_139 ?_
        refine lv_iload_n hx hb dX4_tryJoin_142 rfl (lv_at hl 2 rfl) ?_
        refine va_iald hx hb hK hP 7 0 rfl rfl (vp_in_nI (n := x2) (by omega) (by decide)) dX4_tryJoin_143 ?_
        refine zz_top (y := tk x2) (congrArg _ (nI_clamp (by omega))) ?_
        refine zz_top (y := nI (T 2 x2)) ((hT x2 h2).2.2.1) ?_
        refine va_calli (va_runV (As := [.int (nI (T 2 x1)), .int (nI (T 2 x2))]) (rest := [.int (nI (max (T 1 x1) (T 1 x2))), .int (nI (min (T 0 x1) (T 0 x2))), .int (nI pl), .ref (b 0)]) ⟨hx, hb, hml, hown, hts⟩ (c_X4_lowest l dC dI cI cZ cJ b tw nk pa nc fo th tg nt tb te tk tt ex tc es wy ab re go gb0 (T 2 x1) (T 2 x2) T up (by first | assumption | omega) (by first | assumption | omega) (by omega) (by omega)) (cwV 2 hts gX4_tryJoin_X4_lowest rfl rfl rfl (by decide +kernel) ⟨Nat.le_of_ble_eq_true rfl, Nat.le_of_ble_eq_true rfl⟩) ⟨zPre_blind, va_recv hK hP (ci := 4) (q0 := 0) rfl rfl, zPre_at hP hK hn⟩ rfl rfl hl.1 rfl (lv_room (Nat.le_of_ble_eq_true rfl)) dX4_tryJoin_144 ⟨Nat.le_of_ble_eq_true rfl, Nat.le_of_ble_eq_true rfl⟩) hS (fun _ _ h => h.elim) (fun _ h => h.elim) (fun r_2 u_9 t H locs ht hvm hw hB hz1 hk1 hS => ?_)
        have hP := zkeep hP hk1
        subst hw
        refine lv_aload_n hx hb dX4_tryJoin_147 rfl (lv_at hl 0 rfl) ?_
        refine va_get (D := (dC, dI)) (ci := 4) (v := .ref (b 8)) (C := RX4) (T := TX4) (N := 20) hx hb hts (by decide +kernel) hown hK hP 0 rfl rfl 11 (by decide) (hts (.fieldLink RX4 35 "HandlerOptimizerModel" "entryTargets" "[I") (by decide +kernel)) (fun _ h9 => h9) rfl dX4_tryJoin_148 ?_
        refine lv_iload_n hx hb dX4_tryJoin_151 rfl (lv_at hl 1 rfl) ?_
        refine va_iald hx hb hK hP 8 0 rfl rfl (vp_in_nI (n := x1) (by omega) (by decide)) dX4_tryJoin_152 ?_
        refine zz_top (y := tt x1) (congrArg _ (nI_clamp (by omega))) ?_
        refine zz_top (y := nI (T 3 x1)) ((hT x1 h1).2.2.2) ?_
        have hDc := hD
        have hFc := va_free (wc := w4 b cI cZ tw nk pa nc fo th tg nt tb te tk tt ex tc es wy ab re go gb0) hD hS hA [0, 1, 2, 3, 4, 5, 6, 7, 8, 9, 10, 11, 12] rfl
        refine va_callv (va_runV (As := [.int (nI pl), .int (nI (min (T 0 x1) (T 0 x2))), .int (nI (max (T 1 x1) (T 1 x2))), .int (nI (lw up nk (T 2 x1) (T 2 x2))), .int (nI (T 3 x1))]) (rest := []) ⟨hx, hb, hml, hown, hts⟩ (c_X4_put l dC dI cI cZ cJ b tw nk pa nc fo th tg nt tb te tk tt ex tc es wy ab re go gb0 pl (nI (min (T 0 x1) (T 0 x2))) (nI (max (T 1 x1) (T 1 x2))) (nI (lw up nk (T 2 x1) (T 2 x2))) (nI (T 3 x1)) H.size (by omega)) (cwV 5 hts gX4_tryJoin_X4_put rfl rfl rfl (by decide +kernel) ⟨Nat.le_of_ble_eq_true rfl, Nat.le_of_ble_eq_true rfl⟩) ⟨zWr_blind, va_recv hK hP (ci := 4) (q0 := 0) rfl rfl, zWr_at hP hK hn (hDc.weaken (fun _ _ _ _ => trivial))⟩ rfl rfl hl.1 rfl (lv_room (Nat.le_of_ble_eq_true rfl)) dX4_tryJoin_153 ⟨Nat.le_of_ble_eq_true rfl, Nat.le_of_ble_eq_true rfl⟩) hS (fun q _ h => hFc q h) hFc (fun u_9 t H1 locs ht hvm hw hB hz1 hk1 hS => ?_)
        obtain ⟨hP1, -, hD1⟩ := hB
        rw [ht] at hP1
        obtain ⟨hP, hD⟩ := va_join (wr := []) (w1 := w4 b cI cZ tw nk pa nc fo th tg nt (upd tb pl (nI (min (T 0 x1) (T 0 x2)))) (upd te pl (nI (max (T 1 x1) (T 1 x2)))) (upd tk pl (nI (lw up nk (T 2 x1) (T 2 x2)))) (upd tt pl (nI (T 3 x1))) ex tc es wy ab re go gb0) hP hD [0, 1, 2, 3, 4, 5, 6, 7, 8, 9, 10, 11, 12] [] rfl rfl (by decide) (by decide) hk1 hFc hP1 hD1
        generalize H1 = H at hP hS ⊢
        have hP : va_P (dC, dI) vwCl (w4 b cI cZ tw nk pa nc fo th tg nt (upd tb pl (nI (min (T 0 x1) (T 0 x2)))) (upd te pl (nI (max (T 1 x1) (T 1 x2)))) (upd tk pl (nI (lw up nk (T 2 x1) (T 2 x2)))) (upd tt pl (nI (T 3 x1))) ex tc es wy ab re go gb0) H := hP
        have hD : va_D A (w4 b cI cZ tw nk pa nc fo th tg nt (upd tb pl (nI (min (T 0 x1) (T 0 x2)))) (upd te pl (nI (max (T 1 x1) (T 1 x2)))) (upd tk pl (nI (lw up nk (T 2 x1) (T 2 x2)))) (upd tt pl (nI (T 3 x1))) ex tc es wy ab re go gb0) := hD
        refine lv_aload_n hx hb dX4_tryJoin_156 rfl (lv_at hl 0 rfl) ?_
        refine lv_iload_n hx hb dX4_tryJoin_157 rfl (lv_at hl 3 rfl) ?_
        refine lv_iload_n hx hb dX4_tryJoin_158 rfl (lv_at hl 1 rfl) ?_
        refine lv_icmp_ne (tgt := 166) hx hb dX4_tryJoin_159 (by decide) (fun c_4 => ?_) (fun c_4 => ?_)
        · skip
          have c5 := (zz_net (a := pl) (b := x1) (by omega) (by omega)).mp c_4
          have hgo9 : x1 = go2 := by omega
          refine lv_iload_n hx hb dX4_tryJoin_166 rfl (lv_at hl 1 rfl) ?_
          refine zz_top (y := nI go2) (by rw [hgo9]) ?_
          have hDc := hD
          have hFc := va_free (wc := w4 b cI cZ tw nk pa nc fo th tg nt (upd tb pl (nI (min (T 0 x1) (T 0 x2)))) (upd te pl (nI (max (T 1 x1) (T 1 x2)))) (upd tk pl (nI (lw up nk (T 2 x1) (T 2 x2)))) (upd tt pl (nI (T 3 x1))) ex tc es wy ab re go gb0) hD hS hA [0, 1, 2, 3, 4, 5, 6, 7, 8, 9, 10, 11, 12] rfl
          refine va_callv (va_runV (As := [.int (nI go2)]) (rest := []) ⟨hx, hb, hml, hown, hts⟩ (c_X4_remove l dC dI cI cZ cJ b tw nk pa nc fo th tg nt (upd tb pl (nI (min (T 0 x1) (T 0 x2)))) (upd te pl (nI (max (T 1 x1) (T 1 x2)))) (upd tk pl (nI (lw up nk (T 2 x1) (T 2 x2)))) (upd tt pl (nI (T 3 x1))) ex tc es wy ab re go gb0 go2 (jS T up nk pl go2) H.size (hgol) (hnt) (rT_pj hT hpl h3)) (cwV 1 hts gX4_tryJoin_X4_remove rfl rfl rfl (by decide +kernel) ⟨Nat.le_of_ble_eq_true rfl, Nat.le_of_ble_eq_true rfl⟩) ⟨zWr_blind, va_recv hK hP (ci := 4) (q0 := 0) rfl rfl, zWr_at hP hK hn (hDc.weaken (fun _ _ _ _ => trivial))⟩ rfl rfl hl.1 rfl (lv_room (Nat.le_of_ble_eq_true rfl)) dX4_tryJoin_167 ⟨Nat.le_of_ble_eq_true rfl, Nat.le_of_ble_eq_true rfl⟩) hS (fun q _ h => hFc q h) hFc (fun u_9 t H1 locs ht hvm hw hB hz1 hk1 hS => ?_)
          obtain ⟨tb_n, te_n, tk_n, tt_n⟩ := u_9
          dsimp only at hw hB
          obtain ⟨hP1, -, hD1⟩ := hB
          rw [ht] at hP1
          obtain ⟨hP, hD⟩ := va_join (wr := []) (w1 := w4 b cI cZ tw nk pa nc fo th tg (nt - 1) tb_n te_n tk_n tt_n ex tc es wy ab re go gb0) hP hD [0, 1, 2, 3, 4, 5, 6, 7, 8, 9, 10, 11, 12] [] rfl rfl (by decide) (by decide) hk1 hFc hP1 hD1
          generalize H1 = H at hP hS ⊢
          have hP : va_P (dC, dI) vwCl (w4 b cI cZ tw nk pa nc fo th tg (nt - 1) tb_n te_n tk_n tt_n ex tc es wy ab re go gb0) H := hP
          have hD : va_D A (w4 b cI cZ tw nk pa nc fo th tg (nt - 1) tb_n te_n tk_n tt_n ex tc es wy ab re go gb0) := hD
          have hTj : rT (nt - 1) tb_n te_n tk_n tt_n (jT T up nk pl go2) := hw
          have hgj : g4 nk ab up (nt - 1) tb_n te_n tk_n tt_n (jT T up nk pl go2) := ⟨hk01, hk8, by omega, hTj, okT_jt hO hplt hgol hk01, hF, hU⟩
          refine lv_aload_n hx hb dX4_tryJoin_170 rfl (lv_at hl 0 rfl) ?_
          refine va_calli (va_runV (As := []) (rest := []) ⟨hx, hb, hml, hown, hts⟩ (c_X4_isAsBefore l dC dI cI cZ cJ b tw nk pa nc fo th tg (nt - 1) tb_n te_n tk_n tt_n ex tc es wy ab re go gb0 (jT T up nk pl go2) up G v (hgj) (by first | assumption | omega) (by first | assumption | omega) (by first | assumption | omega)) (cwV 0 hts gX4_tryJoin_X4_isAsBefore rfl rfl rfl (by decide +kernel) ⟨Nat.le_of_ble_eq_true rfl, Nat.le_of_ble_eq_true rfl⟩) ⟨zPre_blind, va_recv hK hP (ci := 4) (q0 := 0) rfl rfl, zPre_at hP hK hn⟩ rfl rfl hl.1 rfl (lv_room (Nat.le_of_ble_eq_true rfl)) dX4_tryJoin_171 ⟨Nat.le_of_ble_eq_true rfl, Nat.le_of_ble_eq_true rfl⟩) hS (fun _ _ h => h.elim) (fun _ h => h.elim) (fun r_10 u_9 t H locs ht hvm hw hB hz1 hk1 hS => ?_)
          have hP := zkeep hP hk1
          subst hw
          refine lv_if_eq (tgt := 179) hx hb dX4_tryJoin_174 (by decide) (fun c_11 => ?_) (fun c_11 => ?_)
          · skip
            have c9 : (kq v th nk nc up G T nt pl go2) = false := zb_0.mp c_11
            refine lv_aload_n hx hb dX4_tryJoin_179 rfl (lv_at hl 0 rfl) ?_
            refine lv_dup hx hb dX4_tryJoin_180 rfl ?_
            refine va_get (D := (dC, dI)) (ci := 4) (v := .int (nI (nt - 1))) (C := RX4) (T := TX4) (N := 20) hx hb hts (by decide +kernel) hown hK hP 0 rfl rfl 7 (by decide) (hts (.fieldLink RX4 64 "HandlerOptimizerModel" "entries" "I") (by decide +kernel)) (fun _ h9 => h9) rfl dX4_tryJoin_181 ?_
            refine lv_iconst (v := 1) hx hb dX4_tryJoin_184 (by decide) ?_
            refine lv_iadd hx hb dX4_tryJoin_185 ?_
            refine zz_top (y := nI ((nt - 1) + 1)) (nI_add _ _) ?_
            refine va_put (D := (dC, dI)) (ci := 4) (v := .int (nI ((nt - 1) + 1))) (ty := .int) (C := RX4) (T := TX4) (N := 20) hx hb hts (by decide +kernel) tyX4 tyX4_ok nmX4 hown hK hP hD hS 0 rfl rfl 7 (by decide) (hts (.fieldLink RX4 64 "HandlerOptimizerModel" "entries" "I") (by decide +kernel)) (fun _ h9 => h9) rfl (by decide +kernel) rfl rfl (Nat.le_of_ble_eq_true rfl) dX4_tryJoin_186 (fun H locs hP hD hS => ?_)
            have hP : va_P (dC, dI) vwCl (w4 b cI cZ tw nk pa nc fo th tg ((nt - 1) + 1) tb_n te_n tk_n tt_n ex tc es wy ab re go gb0) H := hP
            have hD : va_D A (w4 b cI cZ tw nk pa nc fo th tg ((nt - 1) + 1) tb_n te_n tk_n tt_n ex tc es wy ab re go gb0) := hD
            refine lv_iconst (v := 0) hx hb dX4_tryJoin_189 (by decide) ?_
            refine lv_istore (lv' := [(4, .int 0), (0, .ref (b 0)), (1, .int (nI x1)), (2, .int (nI x2)), (3, .int (nI pl))]) hx hb dX4_tryJoin_190 hl (by decide) rfl (fun ls hl => ?_)
            have J_192 : ∀ (n9 : Nat) (y4 : Nat) (gb : Nat → Int32) (ge : Nat → Int32) (gk : Nat → Int32) (gt : Nat → Int32) (H : Heap) (locs : List Loc) (ls : Array Slot), (y4 ≤ nt) → (rT y4 gb ge gk gt T) → nt - y4 < n9 → va_P (dC, dI) vwCl (w4 b cI cZ tw nk pa nc fo th tg ((nt - 1) + 1) gb ge gk gt ex tc es wy ab re go gb0) H → va_D A (w4 b cI cZ tw nk pa nc fo th tg ((nt - 1) + 1) gb ge gk gt ex tc es wy ab re go gb0) → va_S A s.heap H locs → lv_has ls 6 [(0, .ref (b 0)), (1, .int (nI x1)), (2, .int (nI x2)), (3, .int (nI pl)), (4, .int (nI y4))] → W p l e (headSpec wsX4_tryJoin ({ frames := 4, cells := 0, slots := 0, locals := 90 } : Room)).room s m args below meth c H locs 0 0 Q (F0 m 192 ls []) := by
              intro n9
              induction n9 with
              | zero => intro y4 gb ge gk gt H locs ls hy4 hr4 hmu; exact absurd hmu (Nat.not_lt_zero _)
              | succ n9 ih_192 =>
                intro y4 gb ge gk gt H locs ls hy4 hr4 hmu hP hD hS hl
                refine lv_iload hx hb dX4_tryJoin_192 (lv_at hl 4 rfl) ?_
                refine lv_aload_n hx hb dX4_tryJoin_194 rfl (lv_at hl 0 rfl) ?_
                refine va_get (D := (dC, dI)) (ci := 4) (v := .int (nI ((nt - 1) + 1))) (C := RX4) (T := TX4) (N := 20) hx hb hts (by decide +kernel) hown hK hP 0 rfl rfl 7 (by decide) (hts (.fieldLink RX4 64 "HandlerOptimizerModel" "entries" "I") (by decide +kernel)) (fun _ h9 => h9) rfl dX4_tryJoin_195 ?_
                refine lv_icmp_ge (tgt := 255) hx hb dX4_tryJoin_198 (by decide) (fun c_12 => ?_) (fun c_12 => ?_)
                · skip
                  have c_12 := (zz_get (a := y4) (b := (nt - 1) + 1) (by omega) (by omega)).mp c_12
                  refine lv_iconst (v := 0) hx hb dX4_tryJoin_255 (by decide) ?_
                  rw [← hQ]
                  have hP9 := hP
                  have hD9 := hD
                  exact W.zret (v := 0) hx hb hr rfl (fun t ht hW => ⟨⟨0, ((nt - 1) + 1, gb, ge, gk, gt, gb0), rfl, (by rw [c9]; exact ⟨rfl, by simp; omega, by rw [show nt - 1 + 1 = nt from by omega]; exact ⟨hk01, hk8, hnt, (show y4 = nt from by omega) ▸ hr4, hO, hF, hU⟩⟩), (by rw [ht]; exact hP9), va_K.moved hW.alike hK, hD9⟩, hS.F ht⟩) hS.2.2 dX4_tryJoin_256
                · skip
                  have c_12 := (zz_gef (a := y4) (b := (nt - 1) + 1) (by omega) (by omega)).mp c_12
                  refine lv_aload_n hx hb dX4_tryJoin_201 rfl (lv_at hl 0 rfl) ?_
                  refine lv_iload hx hb dX4_tryJoin_202 (lv_at hl 4 rfl) ?_
                  refine lv_aload_n hx hb dX4_tryJoin_204 rfl (lv_at hl 0 rfl) ?_
                  refine va_get (D := (dC, dI)) (ci := 4) (v := .ref (b 12)) (C := RX4) (T := TX4) (N := 20) hx hb hts (by decide +kernel) hown hK hP 0 rfl rfl 19 (by decide) (hts (.fieldLink RX4 51 "HandlerOptimizerModel" "before" "[I") (by decide +kernel)) (fun _ h9 => h9) rfl dX4_tryJoin_205 ?_
                  refine lv_iconst (v := 4) hx hb dX4_tryJoin_208 (by decide) ?_
                  refine lv_iload hx hb dX4_tryJoin_209 (lv_at hl 4 rfl) ?_
                  refine lv_imul hx hb dX4_tryJoin_211 ?_
                  refine zz_top (y := nI (4 * y4)) (zz_mul _ _) ?_
                  refine va_iald hx hb hK hP 12 0 rfl rfl (vp_in_nI (n := 4 * y4) (by omega) (by decide)) dX4_tryJoin_212 ?_
                  refine zz_top (y := gb0 (4 * y4)) (congrArg _ (nI_clamp (by omega))) ?_
                  refine zz_top (y := nI (T 0 y4)) (hq y4 0 (by omega) (Or.inl (by omega))) ?_
                  refine lv_aload_n hx hb dX4_tryJoin_213 rfl (lv_at hl 0 rfl) ?_
                  refine va_get (D := (dC, dI)) (ci := 4) (v := .ref (b 12)) (C := RX4) (T := TX4) (N := 20) hx hb hts (by decide +kernel) hown hK hP 0 rfl rfl 19 (by decide) (hts (.fieldLink RX4 51 "HandlerOptimizerModel" "before" "[I") (by decide +kernel)) (fun _ h9 => h9) rfl dX4_tryJoin_214 ?_
                  refine lv_iconst (v := 4) hx hb dX4_tryJoin_217 (by decide) ?_
                  refine lv_iload hx hb dX4_tryJoin_218 (lv_at hl 4 rfl) ?_
                  refine lv_imul hx hb dX4_tryJoin_220 ?_
                  refine zz_top (y := nI (4 * y4)) (zz_mul _ _) ?_
                  refine lv_iconst (v := 1) hx hb dX4_tryJoin_221 (by decide) ?_
                  refine lv_iadd hx hb dX4_tryJoin_222 ?_
                  refine zz_top (y := nI ((4 * y4) + 1)) (nI_add _ _) ?_
                  refine va_iald hx hb hK hP 12 0 rfl rfl (vp_in_nI (n := (4 * y4) + 1) (by omega) (by decide)) dX4_tryJoin_223 ?_
                  refine zz_top (y := gb0 ((4 * y4) + 1)) (congrArg _ (nI_clamp (by omega))) ?_
                  refine zz_top (y := nI (T 1 y4)) (hq y4 1 (by omega) (Or.inl (by omega))) ?_
                  refine lv_aload_n hx hb dX4_tryJoin_224 rfl (lv_at hl 0 rfl) ?_
                  refine va_get (D := (dC, dI)) (ci := 4) (v := .ref (b 12)) (C := RX4) (T := TX4) (N := 20) hx hb hts (by decide +kernel) hown hK hP 0 rfl rfl 19 (by decide) (hts (.fieldLink RX4 51 "HandlerOptimizerModel" "before" "[I") (by decide +kernel)) (fun _ h9 => h9) rfl dX4_tryJoin_225 ?_
                  refine lv_iconst (v := 4) hx hb dX4_tryJoin_228 (by decide) ?_
                  refine lv_iload hx hb dX4_tryJoin_229 (lv_at hl 4 rfl) ?_
                  refine lv_imul hx hb dX4_tryJoin_231 ?_
                  refine zz_top (y := nI (4 * y4)) (zz_mul _ _) ?_
                  refine lv_iconst (v := 2) hx hb dX4_tryJoin_232 (by decide) ?_
                  refine lv_iadd hx hb dX4_tryJoin_233 ?_
                  refine zz_top (y := nI ((4 * y4) + 2)) (nI_add _ _) ?_
                  refine va_iald hx hb hK hP 12 0 rfl rfl (vp_in_nI (n := (4 * y4) + 2) (by omega) (by decide)) dX4_tryJoin_234 ?_
                  refine zz_top (y := gb0 ((4 * y4) + 2)) (congrArg _ (nI_clamp (by omega))) ?_
                  refine zz_top (y := nI (T 2 y4)) (hq y4 2 (by omega) (Or.inl (by omega))) ?_
                  refine lv_aload_n hx hb dX4_tryJoin_235 rfl (lv_at hl 0 rfl) ?_
                  refine va_get (D := (dC, dI)) (ci := 4) (v := .ref (b 12)) (C := RX4) (T := TX4) (N := 20) hx hb hts (by decide +kernel) hown hK hP 0 rfl rfl 19 (by decide) (hts (.fieldLink RX4 51 "HandlerOptimizerModel" "before" "[I") (by decide +kernel)) (fun _ h9 => h9) rfl dX4_tryJoin_236 ?_
                  refine lv_iconst (v := 4) hx hb dX4_tryJoin_239 (by decide) ?_
                  refine lv_iload hx hb dX4_tryJoin_240 (lv_at hl 4 rfl) ?_
                  refine lv_imul hx hb dX4_tryJoin_242 ?_
                  refine zz_top (y := nI (4 * y4)) (zz_mul _ _) ?_
                  refine lv_iconst (v := 3) hx hb dX4_tryJoin_243 (by decide) ?_
                  refine lv_iadd hx hb dX4_tryJoin_244 ?_
                  refine zz_top (y := nI ((4 * y4) + 3)) (nI_add _ _) ?_
                  refine va_iald hx hb hK hP 12 0 rfl rfl (vp_in_nI (n := (4 * y4) + 3) (by omega) (by decide)) dX4_tryJoin_245 ?_
                  refine zz_top (y := gb0 ((4 * y4) + 3)) (congrArg _ (nI_clamp (by omega))) ?_
                  refine zz_top (y := nI (T 3 y4)) (hq y4 3 (by omega) (Or.inl (by omega))) ?_
                  have hDc := hD
                  have hFc := va_free (wc := w4 b cI cZ tw nk pa nc fo th tg ((nt - 1) + 1) gb ge gk gt ex tc es wy ab re go gb0) hD hS hA [0, 1, 2, 3, 4, 5, 6, 7, 8, 9, 10, 11, 12] rfl
                  refine va_callv (va_runV (As := [.int (nI y4), .int (nI (T 0 y4)), .int (nI (T 1 y4)), .int (nI (T 2 y4)), .int (nI (T 3 y4))]) (rest := []) ⟨hx, hb, hml, hown, hts⟩ (c_X4_put l dC dI cI cZ cJ b tw nk pa nc fo th tg ((nt - 1) + 1) gb ge gk gt ex tc es wy ab re go gb0 y4 (nI (T 0 y4)) (nI (T 1 y4)) (nI (T 2 y4)) (nI (T 3 y4)) H.size (by omega)) (cwV 5 hts gX4_tryJoin_X4_put rfl rfl rfl (by decide +kernel) ⟨Nat.le_of_ble_eq_true rfl, Nat.le_of_ble_eq_true rfl⟩) ⟨zWr_blind, va_recv hK hP (ci := 4) (q0 := 0) rfl rfl, zWr_at hP hK hn (hDc.weaken (fun _ _ _ _ => trivial))⟩ rfl rfl hl.1 rfl (lv_room (Nat.le_of_ble_eq_true rfl)) dX4_tryJoin_246 ⟨Nat.le_of_ble_eq_true rfl, Nat.le_of_ble_eq_true rfl⟩) hS (fun q _ h => hFc q h) hFc (fun u_9 t H1 locs ht hvm hw hB hz1 hk1 hS => ?_)
                  obtain ⟨hP1, -, hD1⟩ := hB
                  rw [ht] at hP1
                  obtain ⟨hP, hD⟩ := va_join (wr := []) (w1 := w4 b cI cZ tw nk pa nc fo th tg ((nt - 1) + 1) (upd gb y4 (nI (T 0 y4))) (upd ge y4 (nI (T 1 y4))) (upd gk y4 (nI (T 2 y4))) (upd gt y4 (nI (T 3 y4))) ex tc es wy ab re go gb0) hP hD [0, 1, 2, 3, 4, 5, 6, 7, 8, 9, 10, 11, 12] [] rfl rfl (by decide) (by decide) hk1 hFc hP1 hD1
                  generalize H1 = H at hP hS ⊢
                  have hP : va_P (dC, dI) vwCl (w4 b cI cZ tw nk pa nc fo th tg ((nt - 1) + 1) (upd gb y4 (nI (T 0 y4))) (upd ge y4 (nI (T 1 y4))) (upd gk y4 (nI (T 2 y4))) (upd gt y4 (nI (T 3 y4))) ex tc es wy ab re go gb0) H := hP
                  have hD : va_D A (w4 b cI cZ tw nk pa nc fo th tg ((nt - 1) + 1) (upd gb y4 (nI (T 0 y4))) (upd ge y4 (nI (T 1 y4))) (upd gk y4 (nI (T 2 y4))) (upd gt y4 (nI (T 3 y4))) ex tc es wy ab re go gb0) := hD
                  refine lv_iinc (v := nI (y4 + 1)) (lv' := [(4, .int (nI (y4 + 1))), (0, .ref (b 0)), (1, .int (nI x1)), (2, .int (nI x2)), (3, .int (nI pl))]) hx hb dX4_tryJoin_249 hl (k := 4) rfl (zz_inc y4 1) (by decide) rfl (fun ls hl => ?_)
                  refine lv_goto (tgt := 192) hx hb dX4_tryJoin_252 (by decide) ?_
                  exact ih_192 (y4 + 1) (upd gb y4 (nI (T 0 y4))) (upd ge y4 (nI (T 1 y4))) (upd gk y4 (nI (T 2 y4))) (upd gt y4 (nI (T 3 y4))) _ _ _ (by first | assumption | omega) (bk_s hr4 rfl rfl rfl rfl) (by omega) hP hD hS (lv_sub hl [1, 2, 3, 4, 0] rfl)
            exact J_192 _ 0 tb_n te_n tk_n tt_n _ _ _ (by first | assumption | omega) (fun e he => absurd he (Nat.not_lt_zero e)) (Nat.lt_succ_self _) hP hD hS (lv_sub hl [1, 2, 3, 4, 0] rfl)
          · skip
            have c9 : (kq v th nk nc up G T nt pl go2) = true := zb_1.mp c_11
            refine lv_iconst (v := 1) hx hb dX4_tryJoin_177 (by decide) ?_
            rw [← hQ]
            have hP9 := hP
            have hD9 := hD
            exact W.zret (v := 1) hx hb hr rfl (fun t ht hW => ⟨⟨1, (nt - 1, tb_n, te_n, tk_n, tt_n, gb0), rfl, (by rw [c9]; exact ⟨rfl, rfl, hgj⟩), (by rw [ht]; exact hP9), va_K.moved hW.alike hK, hD9⟩, hS.F ht⟩) hS.2.2 dX4_tryJoin_178
        · skip
          have c5 := (zz_nef (a := pl) (b := x1) (by omega) (by omega)).mp c_4
          have hgo9 : x2 = go2 := by omega
          refine lv_iload_n hx hb dX4_tryJoin_162 rfl (lv_at hl 2 rfl) ?_
          refine lv_goto (tgt := 167) hx hb dX4_tryJoin_163 (by decide) ?_
          refine zz_top (y := nI go2) (by rw [hgo9]) ?_
          have hDc := hD
          have hFc := va_free (wc := w4 b cI cZ tw nk pa nc fo th tg nt (upd tb pl (nI (min (T 0 x1) (T 0 x2)))) (upd te pl (nI (max (T 1 x1) (T 1 x2)))) (upd tk pl (nI (lw up nk (T 2 x1) (T 2 x2)))) (upd tt pl (nI (T 3 x1))) ex tc es wy ab re go gb0) hD hS hA [0, 1, 2, 3, 4, 5, 6, 7, 8, 9, 10, 11, 12] rfl
          refine va_callv (va_runV (As := [.int (nI go2)]) (rest := []) ⟨hx, hb, hml, hown, hts⟩ (c_X4_remove l dC dI cI cZ cJ b tw nk pa nc fo th tg nt (upd tb pl (nI (min (T 0 x1) (T 0 x2)))) (upd te pl (nI (max (T 1 x1) (T 1 x2)))) (upd tk pl (nI (lw up nk (T 2 x1) (T 2 x2)))) (upd tt pl (nI (T 3 x1))) ex tc es wy ab re go gb0 go2 (jS T up nk pl go2) H.size (hgol) (hnt) (rT_pj hT hpl h3)) (cwV 1 hts gX4_tryJoin_X4_remove rfl rfl rfl (by decide +kernel) ⟨Nat.le_of_ble_eq_true rfl, Nat.le_of_ble_eq_true rfl⟩) ⟨zWr_blind, va_recv hK hP (ci := 4) (q0 := 0) rfl rfl, zWr_at hP hK hn (hDc.weaken (fun _ _ _ _ => trivial))⟩ rfl rfl hl.1 rfl (lv_room (Nat.le_of_ble_eq_true rfl)) dX4_tryJoin_167 ⟨Nat.le_of_ble_eq_true rfl, Nat.le_of_ble_eq_true rfl⟩) hS (fun q _ h => hFc q h) hFc (fun u_9 t H1 locs ht hvm hw hB hz1 hk1 hS => ?_)
          obtain ⟨tb_n, te_n, tk_n, tt_n⟩ := u_9
          dsimp only at hw hB
          obtain ⟨hP1, -, hD1⟩ := hB
          rw [ht] at hP1
          obtain ⟨hP, hD⟩ := va_join (wr := []) (w1 := w4 b cI cZ tw nk pa nc fo th tg (nt - 1) tb_n te_n tk_n tt_n ex tc es wy ab re go gb0) hP hD [0, 1, 2, 3, 4, 5, 6, 7, 8, 9, 10, 11, 12] [] rfl rfl (by decide) (by decide) hk1 hFc hP1 hD1
          generalize H1 = H at hP hS ⊢
          have hP : va_P (dC, dI) vwCl (w4 b cI cZ tw nk pa nc fo th tg (nt - 1) tb_n te_n tk_n tt_n ex tc es wy ab re go gb0) H := hP
          have hD : va_D A (w4 b cI cZ tw nk pa nc fo th tg (nt - 1) tb_n te_n tk_n tt_n ex tc es wy ab re go gb0) := hD
          have hTj : rT (nt - 1) tb_n te_n tk_n tt_n (jT T up nk pl go2) := hw
          have hgj : g4 nk ab up (nt - 1) tb_n te_n tk_n tt_n (jT T up nk pl go2) := ⟨hk01, hk8, by omega, hTj, okT_jt hO hplt hgol hk01, hF, hU⟩
          refine lv_aload_n hx hb dX4_tryJoin_170 rfl (lv_at hl 0 rfl) ?_
          refine va_calli (va_runV (As := []) (rest := []) ⟨hx, hb, hml, hown, hts⟩ (c_X4_isAsBefore l dC dI cI cZ cJ b tw nk pa nc fo th tg (nt - 1) tb_n te_n tk_n tt_n ex tc es wy ab re go gb0 (jT T up nk pl go2) up G v (hgj) (by first | assumption | omega) (by first | assumption | omega) (by first | assumption | omega)) (cwV 0 hts gX4_tryJoin_X4_isAsBefore rfl rfl rfl (by decide +kernel) ⟨Nat.le_of_ble_eq_true rfl, Nat.le_of_ble_eq_true rfl⟩) ⟨zPre_blind, va_recv hK hP (ci := 4) (q0 := 0) rfl rfl, zPre_at hP hK hn⟩ rfl rfl hl.1 rfl (lv_room (Nat.le_of_ble_eq_true rfl)) dX4_tryJoin_171 ⟨Nat.le_of_ble_eq_true rfl, Nat.le_of_ble_eq_true rfl⟩) hS (fun _ _ h => h.elim) (fun _ h => h.elim) (fun r_19 u_9 t H locs ht hvm hw hB hz1 hk1 hS => ?_)
          have hP := zkeep hP hk1
          subst hw
          refine lv_if_eq (tgt := 179) hx hb dX4_tryJoin_174 (by decide) (fun c_20 => ?_) (fun c_20 => ?_)
          · skip
            have c9 : (kq v th nk nc up G T nt pl go2) = false := zb_0.mp c_20
            refine lv_aload_n hx hb dX4_tryJoin_179 rfl (lv_at hl 0 rfl) ?_
            refine lv_dup hx hb dX4_tryJoin_180 rfl ?_
            refine va_get (D := (dC, dI)) (ci := 4) (v := .int (nI (nt - 1))) (C := RX4) (T := TX4) (N := 20) hx hb hts (by decide +kernel) hown hK hP 0 rfl rfl 7 (by decide) (hts (.fieldLink RX4 64 "HandlerOptimizerModel" "entries" "I") (by decide +kernel)) (fun _ h9 => h9) rfl dX4_tryJoin_181 ?_
            refine lv_iconst (v := 1) hx hb dX4_tryJoin_184 (by decide) ?_
            refine lv_iadd hx hb dX4_tryJoin_185 ?_
            refine zz_top (y := nI ((nt - 1) + 1)) (nI_add _ _) ?_
            refine va_put (D := (dC, dI)) (ci := 4) (v := .int (nI ((nt - 1) + 1))) (ty := .int) (C := RX4) (T := TX4) (N := 20) hx hb hts (by decide +kernel) tyX4 tyX4_ok nmX4 hown hK hP hD hS 0 rfl rfl 7 (by decide) (hts (.fieldLink RX4 64 "HandlerOptimizerModel" "entries" "I") (by decide +kernel)) (fun _ h9 => h9) rfl (by decide +kernel) rfl rfl (Nat.le_of_ble_eq_true rfl) dX4_tryJoin_186 (fun H locs hP hD hS => ?_)
            have hP : va_P (dC, dI) vwCl (w4 b cI cZ tw nk pa nc fo th tg ((nt - 1) + 1) tb_n te_n tk_n tt_n ex tc es wy ab re go gb0) H := hP
            have hD : va_D A (w4 b cI cZ tw nk pa nc fo th tg ((nt - 1) + 1) tb_n te_n tk_n tt_n ex tc es wy ab re go gb0) := hD
            refine lv_iconst (v := 0) hx hb dX4_tryJoin_189 (by decide) ?_
            refine lv_istore (lv' := [(4, .int 0), (0, .ref (b 0)), (1, .int (nI x1)), (2, .int (nI x2)), (3, .int (nI pl))]) hx hb dX4_tryJoin_190 hl (by decide) rfl (fun ls hl => ?_)
            have J_192 : ∀ (n9 : Nat) (y4 : Nat) (gb : Nat → Int32) (ge : Nat → Int32) (gk : Nat → Int32) (gt : Nat → Int32) (H : Heap) (locs : List Loc) (ls : Array Slot), (y4 ≤ nt) → (rT y4 gb ge gk gt T) → nt - y4 < n9 → va_P (dC, dI) vwCl (w4 b cI cZ tw nk pa nc fo th tg ((nt - 1) + 1) gb ge gk gt ex tc es wy ab re go gb0) H → va_D A (w4 b cI cZ tw nk pa nc fo th tg ((nt - 1) + 1) gb ge gk gt ex tc es wy ab re go gb0) → va_S A s.heap H locs → lv_has ls 6 [(0, .ref (b 0)), (1, .int (nI x1)), (2, .int (nI x2)), (3, .int (nI pl)), (4, .int (nI y4))] → W p l e (headSpec wsX4_tryJoin ({ frames := 4, cells := 0, slots := 0, locals := 90 } : Room)).room s m args below meth c H locs 0 0 Q (F0 m 192 ls []) := by
              intro n9
              induction n9 with
              | zero => intro y4 gb ge gk gt H locs ls hy4 hr4 hmu; exact absurd hmu (Nat.not_lt_zero _)
              | succ n9 ih_192 =>
                intro y4 gb ge gk gt H locs ls hy4 hr4 hmu hP hD hS hl
                refine lv_iload hx hb dX4_tryJoin_192 (lv_at hl 4 rfl) ?_
                refine lv_aload_n hx hb dX4_tryJoin_194 rfl (lv_at hl 0 rfl) ?_
                refine va_get (D := (dC, dI)) (ci := 4) (v := .int (nI ((nt - 1) + 1))) (C := RX4) (T := TX4) (N := 20) hx hb hts (by decide +kernel) hown hK hP 0 rfl rfl 7 (by decide) (hts (.fieldLink RX4 64 "HandlerOptimizerModel" "entries" "I") (by decide +kernel)) (fun _ h9 => h9) rfl dX4_tryJoin_195 ?_
                refine lv_icmp_ge (tgt := 255) hx hb dX4_tryJoin_198 (by decide) (fun c_21 => ?_) (fun c_21 => ?_)
                · skip
                  have c_21 := (zz_get (a := y4) (b := (nt - 1) + 1) (by omega) (by omega)).mp c_21
                  refine lv_iconst (v := 0) hx hb dX4_tryJoin_255 (by decide) ?_
                  rw [← hQ]
                  have hP9 := hP
                  have hD9 := hD
                  exact W.zret (v := 0) hx hb hr rfl (fun t ht hW => ⟨⟨0, ((nt - 1) + 1, gb, ge, gk, gt, gb0), rfl, (by rw [c9]; exact ⟨rfl, by simp; omega, by rw [show nt - 1 + 1 = nt from by omega]; exact ⟨hk01, hk8, hnt, (show y4 = nt from by omega) ▸ hr4, hO, hF, hU⟩⟩), (by rw [ht]; exact hP9), va_K.moved hW.alike hK, hD9⟩, hS.F ht⟩) hS.2.2 dX4_tryJoin_256
                · skip
                  have c_21 := (zz_gef (a := y4) (b := (nt - 1) + 1) (by omega) (by omega)).mp c_21
                  refine lv_aload_n hx hb dX4_tryJoin_201 rfl (lv_at hl 0 rfl) ?_
                  refine lv_iload hx hb dX4_tryJoin_202 (lv_at hl 4 rfl) ?_
                  refine lv_aload_n hx hb dX4_tryJoin_204 rfl (lv_at hl 0 rfl) ?_
                  refine va_get (D := (dC, dI)) (ci := 4) (v := .ref (b 12)) (C := RX4) (T := TX4) (N := 20) hx hb hts (by decide +kernel) hown hK hP 0 rfl rfl 19 (by decide) (hts (.fieldLink RX4 51 "HandlerOptimizerModel" "before" "[I") (by decide +kernel)) (fun _ h9 => h9) rfl dX4_tryJoin_205 ?_
                  refine lv_iconst (v := 4) hx hb dX4_tryJoin_208 (by decide) ?_
                  refine lv_iload hx hb dX4_tryJoin_209 (lv_at hl 4 rfl) ?_
                  refine lv_imul hx hb dX4_tryJoin_211 ?_
                  refine zz_top (y := nI (4 * y4)) (zz_mul _ _) ?_
                  refine va_iald hx hb hK hP 12 0 rfl rfl (vp_in_nI (n := 4 * y4) (by omega) (by decide)) dX4_tryJoin_212 ?_
                  refine zz_top (y := gb0 (4 * y4)) (congrArg _ (nI_clamp (by omega))) ?_
                  refine zz_top (y := nI (T 0 y4)) (hq y4 0 (by omega) (Or.inl (by omega))) ?_
                  refine lv_aload_n hx hb dX4_tryJoin_213 rfl (lv_at hl 0 rfl) ?_
                  refine va_get (D := (dC, dI)) (ci := 4) (v := .ref (b 12)) (C := RX4) (T := TX4) (N := 20) hx hb hts (by decide +kernel) hown hK hP 0 rfl rfl 19 (by decide) (hts (.fieldLink RX4 51 "HandlerOptimizerModel" "before" "[I") (by decide +kernel)) (fun _ h9 => h9) rfl dX4_tryJoin_214 ?_
                  refine lv_iconst (v := 4) hx hb dX4_tryJoin_217 (by decide) ?_
                  refine lv_iload hx hb dX4_tryJoin_218 (lv_at hl 4 rfl) ?_
                  refine lv_imul hx hb dX4_tryJoin_220 ?_
                  refine zz_top (y := nI (4 * y4)) (zz_mul _ _) ?_
                  refine lv_iconst (v := 1) hx hb dX4_tryJoin_221 (by decide) ?_
                  refine lv_iadd hx hb dX4_tryJoin_222 ?_
                  refine zz_top (y := nI ((4 * y4) + 1)) (nI_add _ _) ?_
                  refine va_iald hx hb hK hP 12 0 rfl rfl (vp_in_nI (n := (4 * y4) + 1) (by omega) (by decide)) dX4_tryJoin_223 ?_
                  refine zz_top (y := gb0 ((4 * y4) + 1)) (congrArg _ (nI_clamp (by omega))) ?_
                  refine zz_top (y := nI (T 1 y4)) (hq y4 1 (by omega) (Or.inl (by omega))) ?_
                  refine lv_aload_n hx hb dX4_tryJoin_224 rfl (lv_at hl 0 rfl) ?_
                  refine va_get (D := (dC, dI)) (ci := 4) (v := .ref (b 12)) (C := RX4) (T := TX4) (N := 20) hx hb hts (by decide +kernel) hown hK hP 0 rfl rfl 19 (by decide) (hts (.fieldLink RX4 51 "HandlerOptimizerModel" "before" "[I") (by decide +kernel)) (fun _ h9 => h9) rfl dX4_tryJoin_225 ?_
                  refine lv_iconst (v := 4) hx hb dX4_tryJoin_228 (by decide) ?_
                  refine lv_iload hx hb dX4_tryJoin_229 (lv_at hl 4 rfl) ?_
                  refine lv_imul hx hb dX4_tryJoin_231 ?_
                  refine zz_top (y := nI (4 * y4)) (zz_mul _ _) ?_
                  refine lv_iconst (v := 2) hx hb dX4_tryJoin_232 (by decide) ?_
                  refine lv_iadd hx hb dX4_tryJoin_233 ?_
                  refine zz_top (y := nI ((4 * y4) + 2)) (nI_add _ _) ?_
                  refine va_iald hx hb hK hP 12 0 rfl rfl (vp_in_nI (n := (4 * y4) + 2) (by omega) (by decide)) dX4_tryJoin_234 ?_
                  refine zz_top (y := gb0 ((4 * y4) + 2)) (congrArg _ (nI_clamp (by omega))) ?_
                  refine zz_top (y := nI (T 2 y4)) (hq y4 2 (by omega) (Or.inl (by omega))) ?_
                  refine lv_aload_n hx hb dX4_tryJoin_235 rfl (lv_at hl 0 rfl) ?_
                  refine va_get (D := (dC, dI)) (ci := 4) (v := .ref (b 12)) (C := RX4) (T := TX4) (N := 20) hx hb hts (by decide +kernel) hown hK hP 0 rfl rfl 19 (by decide) (hts (.fieldLink RX4 51 "HandlerOptimizerModel" "before" "[I") (by decide +kernel)) (fun _ h9 => h9) rfl dX4_tryJoin_236 ?_
                  refine lv_iconst (v := 4) hx hb dX4_tryJoin_239 (by decide) ?_
                  refine lv_iload hx hb dX4_tryJoin_240 (lv_at hl 4 rfl) ?_
                  refine lv_imul hx hb dX4_tryJoin_242 ?_
                  refine zz_top (y := nI (4 * y4)) (zz_mul _ _) ?_
                  refine lv_iconst (v := 3) hx hb dX4_tryJoin_243 (by decide) ?_
                  refine lv_iadd hx hb dX4_tryJoin_244 ?_
                  refine zz_top (y := nI ((4 * y4) + 3)) (nI_add _ _) ?_
                  refine va_iald hx hb hK hP 12 0 rfl rfl (vp_in_nI (n := (4 * y4) + 3) (by omega) (by decide)) dX4_tryJoin_245 ?_
                  refine zz_top (y := gb0 ((4 * y4) + 3)) (congrArg _ (nI_clamp (by omega))) ?_
                  refine zz_top (y := nI (T 3 y4)) (hq y4 3 (by omega) (Or.inl (by omega))) ?_
                  have hDc := hD
                  have hFc := va_free (wc := w4 b cI cZ tw nk pa nc fo th tg ((nt - 1) + 1) gb ge gk gt ex tc es wy ab re go gb0) hD hS hA [0, 1, 2, 3, 4, 5, 6, 7, 8, 9, 10, 11, 12] rfl
                  refine va_callv (va_runV (As := [.int (nI y4), .int (nI (T 0 y4)), .int (nI (T 1 y4)), .int (nI (T 2 y4)), .int (nI (T 3 y4))]) (rest := []) ⟨hx, hb, hml, hown, hts⟩ (c_X4_put l dC dI cI cZ cJ b tw nk pa nc fo th tg ((nt - 1) + 1) gb ge gk gt ex tc es wy ab re go gb0 y4 (nI (T 0 y4)) (nI (T 1 y4)) (nI (T 2 y4)) (nI (T 3 y4)) H.size (by omega)) (cwV 5 hts gX4_tryJoin_X4_put rfl rfl rfl (by decide +kernel) ⟨Nat.le_of_ble_eq_true rfl, Nat.le_of_ble_eq_true rfl⟩) ⟨zWr_blind, va_recv hK hP (ci := 4) (q0 := 0) rfl rfl, zWr_at hP hK hn (hDc.weaken (fun _ _ _ _ => trivial))⟩ rfl rfl hl.1 rfl (lv_room (Nat.le_of_ble_eq_true rfl)) dX4_tryJoin_246 ⟨Nat.le_of_ble_eq_true rfl, Nat.le_of_ble_eq_true rfl⟩) hS (fun q _ h => hFc q h) hFc (fun u_9 t H1 locs ht hvm hw hB hz1 hk1 hS => ?_)
                  obtain ⟨hP1, -, hD1⟩ := hB
                  rw [ht] at hP1
                  obtain ⟨hP, hD⟩ := va_join (wr := []) (w1 := w4 b cI cZ tw nk pa nc fo th tg ((nt - 1) + 1) (upd gb y4 (nI (T 0 y4))) (upd ge y4 (nI (T 1 y4))) (upd gk y4 (nI (T 2 y4))) (upd gt y4 (nI (T 3 y4))) ex tc es wy ab re go gb0) hP hD [0, 1, 2, 3, 4, 5, 6, 7, 8, 9, 10, 11, 12] [] rfl rfl (by decide) (by decide) hk1 hFc hP1 hD1
                  generalize H1 = H at hP hS ⊢
                  have hP : va_P (dC, dI) vwCl (w4 b cI cZ tw nk pa nc fo th tg ((nt - 1) + 1) (upd gb y4 (nI (T 0 y4))) (upd ge y4 (nI (T 1 y4))) (upd gk y4 (nI (T 2 y4))) (upd gt y4 (nI (T 3 y4))) ex tc es wy ab re go gb0) H := hP
                  have hD : va_D A (w4 b cI cZ tw nk pa nc fo th tg ((nt - 1) + 1) (upd gb y4 (nI (T 0 y4))) (upd ge y4 (nI (T 1 y4))) (upd gk y4 (nI (T 2 y4))) (upd gt y4 (nI (T 3 y4))) ex tc es wy ab re go gb0) := hD
                  refine lv_iinc (v := nI (y4 + 1)) (lv' := [(4, .int (nI (y4 + 1))), (0, .ref (b 0)), (1, .int (nI x1)), (2, .int (nI x2)), (3, .int (nI pl))]) hx hb dX4_tryJoin_249 hl (k := 4) rfl (zz_inc y4 1) (by decide) rfl (fun ls hl => ?_)
                  refine lv_goto (tgt := 192) hx hb dX4_tryJoin_252 (by decide) ?_
                  exact ih_192 (y4 + 1) (upd gb y4 (nI (T 0 y4))) (upd ge y4 (nI (T 1 y4))) (upd gk y4 (nI (T 2 y4))) (upd gt y4 (nI (T 3 y4))) _ _ _ (by first | assumption | omega) (bk_s hr4 rfl rfl rfl rfl) (by omega) hP hD hS (lv_sub hl [1, 2, 3, 4, 0] rfl)
            exact J_192 _ 0 tb_n te_n tk_n tt_n _ _ _ (by first | assumption | omega) (fun e he => absurd he (Nat.not_lt_zero e)) (Nat.lt_succ_self _) hP hD hS (lv_sub hl [1, 2, 3, 4, 0] rfl)
          · skip
            have c9 : (kq v th nk nc up G T nt pl go2) = true := zb_1.mp c_20
            refine lv_iconst (v := 1) hx hb dX4_tryJoin_177 (by decide) ?_
            rw [← hQ]
            have hP9 := hP
            have hD9 := hD
            exact W.zret (v := 1) hx hb hr rfl (fun t ht hW => ⟨⟨1, (nt - 1, tb_n, te_n, tk_n, tt_n, gb0), rfl, (by rw [c9]; exact ⟨rfl, rfl, hgj⟩), (by rw [ht]; exact hP9), va_K.moved hW.alike hK, hD9⟩, hS.F ht⟩) hS.2.2 dX4_tryJoin_178
      · skip
        have c_1 := (zz_gef (a := y) (b := nt) (by omega) (by omega)).mp c_1
        refine lv_iconst (v := 0) hx hb dX4_tryJoin_12 (by decide) ?_
        refine lv_istore (lv' := [(5, .int 0), (0, .ref (b 0)), (1, .int (nI x1)), (2, .int (nI x2)), (3, .int (nI pl)), (4, .int (nI y))]) hx hb dX4_tryJoin_13 hl (by decide) rfl (fun ls hl => ?_)
        have J_15 : ∀ (n9 : Nat) (z : Nat) (gb1 : Nat → Int32) (H : Heap) (locs : List Loc) (ls : Array Slot), (z ≤ 4) → (bY y z gb1 T) → 4 - z < n9 → va_P (dC, dI) vwCl (w4 b cI cZ tw nk pa nc fo th tg nt tb te tk tt ex tc es wy ab re go gb1) H → va_D A (w4 b cI cZ tw nk pa nc fo th tg nt tb te tk tt ex tc es wy ab re go gb1) → va_S A s.heap H locs → lv_has ls 6 [(0, .ref (b 0)), (1, .int (nI x1)), (2, .int (nI x2)), (3, .int (nI pl)), (4, .int (nI y)), (5, .int (nI z))] → W p l e (headSpec wsX4_tryJoin ({ frames := 4, cells := 0, slots := 0, locals := 90 } : Room)).room s m args below meth c H locs 0 0 Q (F0 m 15 ls []) := by
          intro n9
          induction n9 with
          | zero => intro z gb1 H locs ls hz hq2 hmu; exact absurd hmu (Nat.not_lt_zero _)
          | succ n9 ih_15 =>
            intro z gb1 H locs ls hz hq2 hmu hP hD hS hl
            refine lv_iload hx hb dX4_tryJoin_15 (lv_at hl 5 rfl) ?_
            refine lv_iconst (v := 4) hx hb dX4_tryJoin_17 (by decide) ?_
            refine lv_icmp_ge (tgt := 93) hx hb dX4_tryJoin_18 (by decide) (fun c_23 => ?_) (fun c_23 => ?_)
            · skip
              have c_23 := (zz_get (a := z) (b := 4) (by omega) (by omega)).mp c_23
              refine lv_iinc (v := nI (y + 1)) (lv' := [(4, .int (nI (y + 1))), (0, .ref (b 0)), (1, .int (nI x1)), (2, .int (nI x2)), (3, .int (nI pl)), (5, .int (nI z))]) hx hb dX4_tryJoin_93 hl (k := 4) rfl (zz_inc y 1) (by decide) rfl (fun ls hl => ?_)
              refine lv_goto (tgt := 3) hx hb dX4_tryJoin_96 (by decide) ?_
              exact ih_3 (y + 1) gb1 _ _ _ (by first | assumption | omega) (bY_n hq2 (by omega)) (by omega) hP hD hS (lv_sub hl [1, 2, 3, 4, 0] rfl)
            · skip
              have c_23 := (zz_gef (a := z) (b := 4) (by omega) (by omega)).mp c_23
              refine lv_aload_n hx hb dX4_tryJoin_21 rfl (lv_at hl 0 rfl) ?_
              refine va_get (D := (dC, dI)) (ci := 4) (v := .ref (b 12)) (C := RX4) (T := TX4) (N := 20) hx hb hts (by decide +kernel) hown hK hP 0 rfl rfl 19 (by decide) (hts (.fieldLink RX4 51 "HandlerOptimizerModel" "before" "[I") (by decide +kernel)) (fun _ h9 => h9) rfl dX4_tryJoin_22 ?_
              refine lv_iconst (v := 4) hx hb dX4_tryJoin_25 (by decide) ?_
              refine lv_iload hx hb dX4_tryJoin_26 (lv_at hl 4 rfl) ?_
              refine lv_imul hx hb dX4_tryJoin_28 ?_
              refine zz_top (y := nI (4 * y)) (zz_mul _ _) ?_
              refine lv_iload hx hb dX4_tryJoin_29 (lv_at hl 5 rfl) ?_
              refine lv_iadd hx hb dX4_tryJoin_31 ?_
              refine zz_top (y := nI ((4 * y) + z)) (nI_add _ _) ?_
              refine lv_iload hx hb dX4_tryJoin_32 (lv_at hl 5 rfl) ?_
              refine lv_if_ne (tgt := 47) hx hb dX4_tryJoin_34 (by decide) (fun c_24 => ?_) (fun c_24 => ?_)
              · skip
                have z0 := (zz_net (a := z) (b := 0) (by omega) (by omega)).mp c_24
                refine lv_iload hx hb dX4_tryJoin_47 (lv_at hl 5 rfl) ?_
                refine lv_iconst (v := 1) hx hb dX4_tryJoin_49 (by decide) ?_
                refine lv_icmp_ne (tgt := 63) hx hb dX4_tryJoin_50 (by decide) (fun c_25 => ?_) (fun c_25 => ?_)
                · skip
                  have z1 := (zz_net (a := z) (b := 1) (by omega) (by omega)).mp c_25
                  refine lv_iload hx hb dX4_tryJoin_63 (lv_at hl 5 rfl) ?_
                  refine lv_iconst (v := 2) hx hb dX4_tryJoin_65 (by decide) ?_
                  refine lv_icmp_ne (tgt := 79) hx hb dX4_tryJoin_66 (by decide) (fun c_26 => ?_) (fun c_26 => ?_)
                  · skip
                    have z2 := (zz_net (a := z) (b := 2) (by omega) (by omega)).mp c_26
                    have hz9 : z = 3 := by omega
                    refine lv_aload_n hx hb dX4_tryJoin_79 rfl (lv_at hl 0 rfl) ?_
                    refine va_get (D := (dC, dI)) (ci := 4) (v := .ref (b 8)) (C := RX4) (T := TX4) (N := 20) hx hb hts (by decide +kernel) hown hK hP 0 rfl rfl 11 (by decide) (hts (.fieldLink RX4 35 "HandlerOptimizerModel" "entryTargets" "[I") (by decide +kernel)) (fun _ h9 => h9) rfl dX4_tryJoin_80 ?_
                    refine lv_iload hx hb dX4_tryJoin_83 (lv_at hl 4 rfl) ?_
                    refine va_iald hx hb hK hP 8 0 rfl rfl (vp_in_nI (n := y) (by omega) (by decide)) dX4_tryJoin_85 ?_
                    refine zz_top (y := tt y) (congrArg _ (nI_clamp (by omega))) ?_
                    refine zz_top (y := nI (T 3 y)) ((hT y (by omega)).2.2.2) ?_
                    refine va_iast hx hb hK hP hD hS 12 0 rfl rfl (vp_in_nI (n := (4 * y) + z) (by omega) (by decide)) dX4_tryJoin_86 (fun H locs hP hD hS => ?_)
                    rw [nI_clamp (n := (4 * y) + z) (by omega)] at hP hD
                    have hP : va_P (dC, dI) vwCl (w4 b cI cZ tw nk pa nc fo th tg nt tb te tk tt ex tc es wy ab re go (upd gb1 ((4 * y) + z) (nI (T 3 y)))) H := hP
                    have hD : va_D A (w4 b cI cZ tw nk pa nc fo th tg nt tb te tk tt ex tc es wy ab re go (upd gb1 ((4 * y) + z) (nI (T 3 y)))) := hD
                    refine lv_iinc (v := nI (z + 1)) (lv' := [(5, .int (nI (z + 1))), (0, .ref (b 0)), (1, .int (nI x1)), (2, .int (nI x2)), (3, .int (nI pl)), (4, .int (nI y))]) hx hb dX4_tryJoin_87 hl (k := 5) rfl (zz_inc z 1) (by decide) rfl (fun ls hl => ?_)
                    refine lv_goto (tgt := 15) hx hb dX4_tryJoin_90 (by decide) ?_
                    exact ih_15 (z + 1) (upd gb1 ((4 * y) + z) (nI (T 3 y))) _ _ _ (by first | assumption | omega) (bY_s hq2 (by omega) (by rw [hz9])) (by omega) hP hD hS (lv_sub hl [1, 2, 3, 4, 5, 0] rfl)
                  · skip
                    have hz9 := (zz_nef (a := z) (b := 2) (by omega) (by omega)).mp c_26
                    refine lv_aload_n hx hb dX4_tryJoin_69 rfl (lv_at hl 0 rfl) ?_
                    refine va_get (D := (dC, dI)) (ci := 4) (v := .ref (b 7)) (C := RX4) (T := TX4) (N := 20) hx hb hts (by decide +kernel) hown hK hP 0 rfl rfl 10 (by decide) (hts (.fieldLink RX4 32 "HandlerOptimizerModel" "entryKinds" "[I") (by decide +kernel)) (fun _ h9 => h9) rfl dX4_tryJoin_70 ?_
                    refine lv_iload hx hb dX4_tryJoin_73 (lv_at hl 4 rfl) ?_
                    refine va_iald hx hb hK hP 7 0 rfl rfl (vp_in_nI (n := y) (by omega) (by decide)) dX4_tryJoin_75 ?_
                    refine zz_top (y := tk y) (congrArg _ (nI_clamp (by omega))) ?_
                    refine zz_top (y := nI (T 2 y)) ((hT y (by omega)).2.2.1) ?_
                    refine lv_goto (tgt := 86) hx hb dX4_tryJoin_76 (by decide) ?_
                    refine va_iast hx hb hK hP hD hS 12 0 rfl rfl (vp_in_nI (n := (4 * y) + z) (by omega) (by decide)) dX4_tryJoin_86 (fun H locs hP hD hS => ?_)
                    rw [nI_clamp (n := (4 * y) + z) (by omega)] at hP hD
                    have hP : va_P (dC, dI) vwCl (w4 b cI cZ tw nk pa nc fo th tg nt tb te tk tt ex tc es wy ab re go (upd gb1 ((4 * y) + z) (nI (T 2 y)))) H := hP
                    have hD : va_D A (w4 b cI cZ tw nk pa nc fo th tg nt tb te tk tt ex tc es wy ab re go (upd gb1 ((4 * y) + z) (nI (T 2 y)))) := hD
                    refine lv_iinc (v := nI (z + 1)) (lv' := [(5, .int (nI (z + 1))), (0, .ref (b 0)), (1, .int (nI x1)), (2, .int (nI x2)), (3, .int (nI pl)), (4, .int (nI y))]) hx hb dX4_tryJoin_87 hl (k := 5) rfl (zz_inc z 1) (by decide) rfl (fun ls hl => ?_)
                    refine lv_goto (tgt := 15) hx hb dX4_tryJoin_90 (by decide) ?_
                    exact ih_15 (z + 1) (upd gb1 ((4 * y) + z) (nI (T 2 y))) _ _ _ (by first | assumption | omega) (bY_s hq2 (by omega) (by rw [hz9])) (by omega) hP hD hS (lv_sub hl [1, 2, 3, 4, 5, 0] rfl)
                · skip
                  have hz9 := (zz_nef (a := z) (b := 1) (by omega) (by omega)).mp c_25
                  refine lv_aload_n hx hb dX4_tryJoin_53 rfl (lv_at hl 0 rfl) ?_
                  refine va_get (D := (dC, dI)) (ci := 4) (v := .ref (b 6)) (C := RX4) (T := TX4) (N := 20) hx hb hts (by decide +kernel) hown hK hP 0 rfl rfl 9 (by decide) (hts (.fieldLink RX4 29 "HandlerOptimizerModel" "tos" "[I") (by decide +kernel)) (fun _ h9 => h9) rfl dX4_tryJoin_54 ?_
                  refine lv_iload hx hb dX4_tryJoin_57 (lv_at hl 4 rfl) ?_
                  refine va_iald hx hb hK hP 6 0 rfl rfl (vp_in_nI (n := y) (by omega) (by decide)) dX4_tryJoin_59 ?_
                  refine zz_top (y := te y) (congrArg _ (nI_clamp (by omega))) ?_
                  refine zz_top (y := nI (T 1 y)) ((hT y (by omega)).2.1) ?_
                  refine lv_goto (tgt := 86) hx hb dX4_tryJoin_60 (by decide) ?_
                  refine va_iast hx hb hK hP hD hS 12 0 rfl rfl (vp_in_nI (n := (4 * y) + z) (by omega) (by decide)) dX4_tryJoin_86 (fun H locs hP hD hS => ?_)
                  rw [nI_clamp (n := (4 * y) + z) (by omega)] at hP hD
                  have hP : va_P (dC, dI) vwCl (w4 b cI cZ tw nk pa nc fo th tg nt tb te tk tt ex tc es wy ab re go (upd gb1 ((4 * y) + z) (nI (T 1 y)))) H := hP
                  have hD : va_D A (w4 b cI cZ tw nk pa nc fo th tg nt tb te tk tt ex tc es wy ab re go (upd gb1 ((4 * y) + z) (nI (T 1 y)))) := hD
                  refine lv_iinc (v := nI (z + 1)) (lv' := [(5, .int (nI (z + 1))), (0, .ref (b 0)), (1, .int (nI x1)), (2, .int (nI x2)), (3, .int (nI pl)), (4, .int (nI y))]) hx hb dX4_tryJoin_87 hl (k := 5) rfl (zz_inc z 1) (by decide) rfl (fun ls hl => ?_)
                  refine lv_goto (tgt := 15) hx hb dX4_tryJoin_90 (by decide) ?_
                  exact ih_15 (z + 1) (upd gb1 ((4 * y) + z) (nI (T 1 y))) _ _ _ (by first | assumption | omega) (bY_s hq2 (by omega) (by rw [hz9])) (by omega) hP hD hS (lv_sub hl [1, 2, 3, 4, 5, 0] rfl)
              · skip
                have hz9 := (zz_nef (a := z) (b := 0) (by omega) (by omega)).mp c_24
                refine lv_aload_n hx hb dX4_tryJoin_37 rfl (lv_at hl 0 rfl) ?_
                refine va_get (D := (dC, dI)) (ci := 4) (v := .ref (b 5)) (C := RX4) (T := TX4) (N := 20) hx hb hts (by decide +kernel) hown hK hP 0 rfl rfl 8 (by decide) (hts (.fieldLink RX4 26 "HandlerOptimizerModel" "froms" "[I") (by decide +kernel)) (fun _ h9 => h9) rfl dX4_tryJoin_38 ?_
                refine lv_iload hx hb dX4_tryJoin_41 (lv_at hl 4 rfl) ?_
                refine va_iald hx hb hK hP 5 0 rfl rfl (vp_in_nI (n := y) (by omega) (by decide)) dX4_tryJoin_43 ?_
                refine zz_top (y := tb y) (congrArg _ (nI_clamp (by omega))) ?_
                refine zz_top (y := nI (T 0 y)) ((hT y (by omega)).1) ?_
                refine lv_goto (tgt := 86) hx hb dX4_tryJoin_44 (by decide) ?_
                refine va_iast hx hb hK hP hD hS 12 0 rfl rfl (vp_in_nI (n := (4 * y) + z) (by omega) (by decide)) dX4_tryJoin_86 (fun H locs hP hD hS => ?_)
                rw [nI_clamp (n := (4 * y) + z) (by omega)] at hP hD
                have hP : va_P (dC, dI) vwCl (w4 b cI cZ tw nk pa nc fo th tg nt tb te tk tt ex tc es wy ab re go (upd gb1 ((4 * y) + z) (nI (T 0 y)))) H := hP
                have hD : va_D A (w4 b cI cZ tw nk pa nc fo th tg nt tb te tk tt ex tc es wy ab re go (upd gb1 ((4 * y) + z) (nI (T 0 y)))) := hD
                refine lv_iinc (v := nI (z + 1)) (lv' := [(5, .int (nI (z + 1))), (0, .ref (b 0)), (1, .int (nI x1)), (2, .int (nI x2)), (3, .int (nI pl)), (4, .int (nI y))]) hx hb dX4_tryJoin_87 hl (k := 5) rfl (zz_inc z 1) (by decide) rfl (fun ls hl => ?_)
                refine lv_goto (tgt := 15) hx hb dX4_tryJoin_90 (by decide) ?_
                exact ih_15 (z + 1) (upd gb1 ((4 * y) + z) (nI (T 0 y))) _ _ _ (by first | assumption | omega) (bY_s hq2 (by omega) (by rw [hz9])) (by omega) hP hD hS (lv_sub hl [1, 2, 3, 4, 5, 0] rfl)
        exact J_15 _ 0 gb0 _ _ _ (by first | assumption | omega) hq (Nat.lt_succ_self _) hP hD hS (lv_sub hl [1, 2, 3, 4, 5, 0] rfl)
  exact J_3 _ 0 be _ _ _ (by first | assumption | omega) (fun e f _ h => by omega) (Nat.lt_succ_self _) hP hD hS (lv_sub hl [1, 2, 3, 4, 0] rfl)

set_option maxHeartbeats 4000000 in
set_option maxRecDepth 100000 in
theorem c_X4_joinOne (l : Launch) (dC : Nat → ClassId) (dI : Nat → Nat → Nat) (cI cZ cJ : ClassId) (b : Nat → Nat) (tw : Int32) (nk : Nat) (pa : Nat → Int32) (nc : Nat) (fo : Nat → Int32) (th : Nat → Int32) (tg : Nat → Int32) (nt : Nat) (tb : Nat → Int32) (te : Nat → Int32) (tk : Nat → Int32) (tt : Nat → Int32) (ex : Int32) (tc : Int32) (es : Int32) (wy : Int64) (ab : Nat → Int32) (re : Nat → Int32) (go : Nat → Int32) (be : Nat → Int32) (T : Nat → Nat → Nat) (up : Nat → Nat → Bool) (G : Nat → Nat → Int32) (v : Nat → Bool) (sz : Nat) (hg : g4 nk ab up nt tb te tk tt T) (hc : okC nk nc fo th tg) (hre : ∀ j, j < 48 → re j = bI (v j)) (hgo : gO nc nk go G) : Met l yX4_joinOne wsX4_joinOne ({ frames := 5, cells := 0, slots := 0, locals := 115 } : Room) (va_Pc [.ref (b 0)] (zWr (dC, dI) [(cI, .int), (cZ, .boolean), (cJ, .long)] (w4 b cI cZ tw nk pa nc fo th tg nt tb te tk tt ex tc es wy ab re go be) sz)) (va_Qi (fun (r : Int32) (u : Nat × (Nat → Int32) × (Nat → Int32) × (Nat → Int32) × (Nat → Int32) × (Nat → Int32)) => match u with | (nt9, tb9, te9, tk9, tt9, be9) => r = bI (jN v th nk nc up G (T, nt)).isSome ∧ ∃ D, ((jN v th nk nc up G (T, nt)).getD (T, nt)) = (D, nt9) ∧ g4 nk ab up nt9 tb9 te9 tk9 tt9 D) (fun u t => match u with | (nt9, tb9, te9, tk9, tt9, be9) => zWo (dC, dI) [(cI, .int), (cZ, .boolean), (cJ, .long)] (w4 b cI cZ tw nk pa nc fo th tg nt9 tb9 te9 tk9 tt9 ex tc es wy ab re go be9) (va_A (w4 b cI cZ tw nk pa nc fo th tg nt tb te tk tt ex tc es wy ab re go be) sz) t) (va_A (w4 b cI cZ tw nk pa nc fo th tg nt tb te tk tt ex tc es wy ab re go be) sz)) 0 0 (va_A (w4 b cI cZ tw nk pa nc fo th tg nt tb te tk tt ex tc es wy ab re go be) sz) := by
  refine Met.ofW (cc := cX4_joinOne) (maxL := 3) (ret := (some .boolean)) (by decide) rfl ?_
  intro p e s m args below meth c s₁ B hml hv
  obtain ⟨hav, hsz, ⟨hP, hK, hn⟩, hD0⟩ := hv
  have hx := B.exec
  have hb := B.bytes
  have hr := B.returns
  have hts := atoms_spec (ws := wsX4_joinOne) B.pre
  have hown : s.vm.findClass RX4 = some m.cls := findClass_of_methodNamed B.named
  have hlocks := B.notSynchronized
  subst hsz
  have hD := hD0.self (sz := s.heap.size)
  generalize hAe : (va_A (w4 b cI cZ tw nk pa nc fo th tg nt tb te tk tt ex tc es wy ab re go be) s.heap.size) = A at hD ⊢
  have hA : ∀ q : Nat, s.heap.size ≤ q → A q := fun q h => by rw [← hAe]; exact Or.inr h
  have hS : va_S A s.heap s.heap [] := va_S.rf
  generalize hQ : MQ below (va_Qi (fun (r : Int32) (u : Nat × (Nat → Int32) × (Nat → Int32) × (Nat → Int32) × (Nat → Int32) × (Nat → Int32)) => match u with | (nt9, tb9, te9, tk9, tt9, be9) => r = bI (jN v th nk nc up G (T, nt)).isSome ∧ ∃ D, ((jN v th nk nc up G (T, nt)).getD (T, nt)) = (D, nt9) ∧ g4 nk ab up nt9 tb9 te9 tk9 tt9 D) (fun u t => match u with | (nt9, tb9, te9, tk9, tt9, be9) => zWo (dC, dI) [(cI, .int), (cZ, .boolean), (cJ, .long)] (w4 b cI cZ tw nk pa nc fo th tg nt9 tb9 te9 tk9 tt9 ex tc es wy ab re go be9) A t) A) args s 0 0 A = Q
  refine W.eq (g2 := entryFrame m ([.ref (b 0)] : List Value).toArray 3) (by rw [hav]) ?_
  have hl := lv_entry ([.ref (b 0)]) (n := 3) (Nat.le_of_ble_eq_true rfl)
  rw [lg_entry_eq]
  generalize (lg_sl ([.ref (b 0)]) ++ List.replicate (3 - (lg_sl ([.ref (b 0)])).length) Slot.unset).toArray = ls at hl ⊢
  have hl : lv_has ls 3 [(0, .ref (b 0))] := hl
  obtain ⟨H, hH⟩ : ∃ H, H = s.heap := ⟨_, rfl⟩
  obtain ⟨locs, hlo⟩ : ∃ q : List Loc, q = [] := ⟨_, rfl⟩
  have hP : va_P (dC, dI) vwCl (w4 b cI cZ tw nk pa nc fo th tg nt tb te tk tt ex tc es wy ab re go be) H := by rw [hH]; exact hP
  have hS : va_S A s.heap H locs := by rw [hH, hlo]; exact hS
  refine zz_hl hH hlo ?_
  obtain ⟨hk01, hk8, hnt, hT, hO, hF, hU⟩ := id hg
  obtain ⟨hnc, hC⟩ := id hc
  refine lv_iconst (v := 0) hx hb dX4_joinOne_0 (by decide) ?_
  refine lv_istore_n (lv' := [(1, .int 0), (0, .ref (b 0))]) hx hb dX4_joinOne_1 rfl hl (by decide) rfl (fun ls hl => ?_)
  have J_2 : ∀ (n9 : Nat) (y : Nat) (gb : Nat → Int32) (ge : Nat → Int32) (gk : Nat → Int32) (gt : Nat → Int32) (gbe : Nat → Int32) (H : Heap) (locs : List Loc) (ls : Array Slot), (y ≤ nt) → (g4 nk ab up nt gb ge gk gt T) → (∀ m, m < y * 24 → pj v th nk nc up G T nt m = false) → nt - y < n9 → va_P (dC, dI) vwCl (w4 b cI cZ tw nk pa nc fo th tg nt gb ge gk gt ex tc es wy ab re go gbe) H → va_D A (w4 b cI cZ tw nk pa nc fo th tg nt gb ge gk gt ex tc es wy ab re go gbe) → va_S A s.heap H locs → lv_has ls 3 [(0, .ref (b 0)), (1, .int (nI y))] → W p l e (headSpec wsX4_joinOne ({ frames := 5, cells := 0, slots := 0, locals := 115 } : Room)).room s m args below meth c H locs 0 0 Q (F0 m 2 ls []) := by
    intro n9
    induction n9 with
    | zero => intro y gb ge gk gt gbe H locs ls hy hgg hp9 hmu; exact absurd hmu (Nat.not_lt_zero _)
    | succ n9 ih_2 =>
      intro y gb ge gk gt gbe H locs ls hy hgg hp9 hmu hP hD hS hl
      refine lv_iload_n hx hb dX4_joinOne_2 rfl (lv_at hl 1 rfl) ?_
      refine lv_aload_n hx hb dX4_joinOne_3 rfl (lv_at hl 0 rfl) ?_
      refine va_get (D := (dC, dI)) (ci := 4) (v := .int (nI nt)) (C := RX4) (T := TX4) (N := 20) hx hb hts (by decide +kernel) hown hK hP 0 rfl rfl 7 (by decide) (hts (.fieldLink RX4 64 "HandlerOptimizerModel" "entries" "I") (by decide +kernel)) (fun _ h9 => h9) rfl dX4_joinOne_4 ?_
      refine lv_icmp_ge (tgt := 71) hx hb dX4_joinOne_7 (by decide) (fun c_1 => ?_) (fun c_1 => ?_)
      · skip
        have c_1 := (zz_get (a := y) (b := nt) (by omega) (by omega)).mp c_1
        refine lv_iconst (v := 0) hx hb dX4_joinOne_71 (by decide) ?_
        rw [← hQ]
        have hP9 := hP
        have hD9 := hD
        exact W.zret (v := 0) hx hb hr rfl (fun t ht hW => ⟨⟨0, (nt, gb, ge, gk, gt, gbe), rfl, (by rw [jN_none (v := v) (th := th) (nc := nc) (G := G) (fun m hm => hp9 m (by omega))]; exact ⟨rfl, T, rfl, hgg⟩), (by rw [ht]; exact hP9), va_K.moved hW.alike hK, hD9⟩, hS.F ht⟩) hS.2.2 dX4_joinOne_72
      · skip
        have c_1 := (zz_gef (a := y) (b := nt) (by omega) (by omega)).mp c_1
        refine lv_iload_n hx hb dX4_joinOne_10 rfl (lv_at hl 1 rfl) ?_
        refine lv_iconst (v := 1) hx hb dX4_joinOne_11 (by decide) ?_
        refine lv_iadd hx hb dX4_joinOne_12 ?_
        refine zz_top (y := nI (y + 1)) (nI_add _ _) ?_
        refine lv_istore_n (lv' := [(2, .int (nI (y + 1))), (0, .ref (b 0)), (1, .int (nI y))]) hx hb dX4_joinOne_13 rfl hl (by decide) rfl (fun ls hl => ?_)
        have J_14 : ∀ (n9 : Nat) (z : Nat) (gb2 : Nat → Int32) (ge2 : Nat → Int32) (gk2 : Nat → Int32) (gt2 : Nat → Int32) (gbe2 : Nat → Int32) (H : Heap) (locs : List Loc) (ls : Array Slot), (y < z) → (z ≤ nt) → (g4 nk ab up nt gb2 ge2 gk2 gt2 T) → (∀ m, m < y * 24 + z → pj v th nk nc up G T nt m = false) → nt - z < n9 → va_P (dC, dI) vwCl (w4 b cI cZ tw nk pa nc fo th tg nt gb2 ge2 gk2 gt2 ex tc es wy ab re go gbe2) H → va_D A (w4 b cI cZ tw nk pa nc fo th tg nt gb2 ge2 gk2 gt2 ex tc es wy ab re go gbe2) → va_S A s.heap H locs → lv_has ls 3 [(0, .ref (b 0)), (1, .int (nI y)), (2, .int (nI z))] → W p l e (headSpec wsX4_joinOne ({ frames := 5, cells := 0, slots := 0, locals := 115 } : Room)).room s m args below meth c H locs 0 0 Q (F0 m 14 ls []) := by
          intro n9
          induction n9 with
          | zero => intro z gb2 ge2 gk2 gt2 gbe2 H locs ls hz hz2 hgg2 hp8 hmu; exact absurd hmu (Nat.not_lt_zero _)
          | succ n9 ih_14 =>
            intro z gb2 ge2 gk2 gt2 gbe2 H locs ls hz hz2 hgg2 hp8 hmu hP hD hS hl
            refine lv_iload_n hx hb dX4_joinOne_14 rfl (lv_at hl 2 rfl) ?_
            refine lv_aload_n hx hb dX4_joinOne_15 rfl (lv_at hl 0 rfl) ?_
            refine va_get (D := (dC, dI)) (ci := 4) (v := .int (nI nt)) (C := RX4) (T := TX4) (N := 20) hx hb hts (by decide +kernel) hown hK hP 0 rfl rfl 7 (by decide) (hts (.fieldLink RX4 64 "HandlerOptimizerModel" "entries" "I") (by decide +kernel)) (fun _ h9 => h9) rfl dX4_joinOne_16 ?_
            refine lv_icmp_ge (tgt := 65) hx hb dX4_joinOne_19 (by decide) (fun c_2 => ?_) (fun c_2 => ?_)
            · skip
              have c_2 := (zz_get (a := z) (b := nt) (by omega) (by omega)).mp c_2
              refine lv_iinc (v := nI (y + 1)) (lv' := [(1, .int (nI (y + 1))), (0, .ref (b 0)), (2, .int (nI z))]) hx hb dX4_joinOne_65 hl (k := 1) rfl (zz_inc y 1) (by decide) rfl (fun ls hl => ?_)
              refine lv_goto (tgt := 2) hx hb dX4_joinOne_68 (by decide) ?_
              exact ih_2 (y + 1) gb2 ge2 gk2 gt2 gbe2 _ _ _ (by first | assumption | omega) hgg2 (by
                      intro m hm
                      by_cases d : m < y * 24 + z
                      · exact hp8 m d
                      · have e1 : m = y * 24 + (m - y * 24) := by omega
                        rw [e1, pj_at (by omega), decide_eq_false (p := m - y * 24 < nt) (by omega)]; simp) (by omega) hP hD hS (lv_sub hl [1, 0] rfl)
            · skip
              have c_2 := (zz_gef (a := z) (b := nt) (by omega) (by omega)).mp c_2
              obtain ⟨-, -, -, hTg, -, -, -⟩ := id hgg2
              obtain ⟨-, -, -, oz⟩ := hO z (by omega)
              obtain ⟨-, -, -, oy⟩ := hO y (by omega)
              refine lv_aload_n hx hb dX4_joinOne_22 rfl (lv_at hl 0 rfl) ?_
              refine va_get (D := (dC, dI)) (ci := 4) (v := .ref (b 8)) (C := RX4) (T := TX4) (N := 20) hx hb hts (by decide +kernel) hown hK hP 0 rfl rfl 11 (by decide) (hts (.fieldLink RX4 35 "HandlerOptimizerModel" "entryTargets" "[I") (by decide +kernel)) (fun _ h9 => h9) rfl dX4_joinOne_23 ?_
              refine lv_iload_n hx hb dX4_joinOne_26 rfl (lv_at hl 1 rfl) ?_
              refine va_iald hx hb hK hP 8 0 rfl rfl (vp_in_nI (n := y) (by omega) (by decide)) dX4_joinOne_27 ?_
              refine zz_top (y := gt2 y) (congrArg _ (nI_clamp (by omega))) ?_
              refine zz_top (y := nI (T 3 y)) ((hTg y (by omega)).2.2.2) ?_
              refine lv_aload_n hx hb dX4_joinOne_28 rfl (lv_at hl 0 rfl) ?_
              refine va_get (D := (dC, dI)) (ci := 4) (v := .ref (b 8)) (C := RX4) (T := TX4) (N := 20) hx hb hts (by decide +kernel) hown hK hP 0 rfl rfl 11 (by decide) (hts (.fieldLink RX4 35 "HandlerOptimizerModel" "entryTargets" "[I") (by decide +kernel)) (fun _ h9 => h9) rfl dX4_joinOne_29 ?_
              refine lv_iload_n hx hb dX4_joinOne_32 rfl (lv_at hl 2 rfl) ?_
              refine va_iald hx hb hK hP 8 0 rfl rfl (vp_in_nI (n := z) (by omega) (by decide)) dX4_joinOne_33 ?_
              refine zz_top (y := gt2 z) (congrArg _ (nI_clamp (by omega))) ?_
              refine zz_top (y := nI (T 3 z)) ((hTg z (by omega)).2.2.2) ?_
              refine lv_icmp_ne (tgt := 59) hx hb dX4_joinOne_34 (by decide) (fun c_3 => ?_) (fun c_3 => ?_)
              · skip
                have c7 := (zz_net (a := T 3 y) (b := T 3 z) (by omega) (by omega)).mp c_3
                have hg9 := hgg2
                have hpf : (decide (y < z) && decide (z < nt) && decide (T 3 y = T 3 z) && ((kq v th nk nc up G T nt y z) || (kq v th nk nc up G T nt z y))) = false := by rw [decide_eq_false c7]; simp
                refine lv_iinc (v := nI (z + 1)) (lv' := [(2, .int (nI (z + 1))), (0, .ref (b 0)), (1, .int (nI y))]) hx hb dX4_joinOne_59 hl (k := 2) rfl (zz_inc z 1) (by decide) rfl (fun ls hl => ?_)
                refine lv_goto (tgt := 14) hx hb dX4_joinOne_62 (by decide) ?_
                exact ih_14 (z + 1) gb2 ge2 gk2 gt2 gbe2 _ _ _ (by first | assumption | omega) (by first | assumption | omega) hg9 (by
                        intro m hm
                        by_cases d : m < y * 24 + z
                        · exact hp8 m d
                        · have e1 : m = y * 24 + z := by omega
                          rw [e1, pj_at (by omega)]; exact hpf) (by omega) hP hD hS (lv_sub hl [1, 2, 0] rfl)
              · skip
                have c7 := (zz_nef (a := T 3 y) (b := T 3 z) (by omega) (by omega)).mp c_3
                refine lv_aload_n hx hb dX4_joinOne_37 rfl (lv_at hl 0 rfl) ?_
                refine lv_iload_n hx hb dX4_joinOne_38 rfl (lv_at hl 1 rfl) ?_
                refine lv_iload_n hx hb dX4_joinOne_39 rfl (lv_at hl 2 rfl) ?_
                refine lv_iload_n hx hb dX4_joinOne_40 rfl (lv_at hl 1 rfl) ?_
                have hDc := hD
                have hFc := va_free (wc := w4 b cI cZ tw nk pa nc fo th tg nt gb2 ge2 gk2 gt2 ex tc es wy ab re go gbe2) hD hS hA [0, 1, 2, 3, 4, 5, 6, 7, 8, 9, 10, 11, 12] rfl
                refine va_calli (va_runV (As := [.int (nI y), .int (nI z), .int (nI y)]) (rest := []) ⟨hx, hb, hml, hown, hts⟩ (c_X4_tryJoin l dC dI cI cZ cJ b tw nk pa nc fo th tg nt gb2 ge2 gk2 gt2 ex tc es wy ab re go gbe2 y z y z T up G v H.size (hgg2) (by first | assumption | omega) (by omega) (by omega) (by omega) (Or.inl ⟨rfl, rfl⟩) (c7) (by first | assumption | omega) (by first | assumption | omega)) (cwV 3 hts gX4_joinOne_X4_tryJoin rfl rfl rfl (by decide +kernel) ⟨Nat.le_of_ble_eq_true rfl, Nat.le_of_ble_eq_true rfl⟩) ⟨zWr_blind, va_recv hK hP (ci := 4) (q0 := 0) rfl rfl, zWr_at hP hK hn (hDc.weaken (fun _ _ _ _ => trivial))⟩ rfl rfl hl.1 rfl (lv_room (Nat.le_of_ble_eq_true rfl)) dX4_joinOne_41 ⟨Nat.le_of_ble_eq_true rfl, Nat.le_of_ble_eq_true rfl⟩) hS (fun q _ h => hFc q h) hFc (fun r_4 u_9 t H1 locs ht hvm hw hB hz1 hk1 hS => ?_)
                obtain ⟨nt_n, tb_n, te_n, tk_n, tt_n, be_n⟩ := u_9
                dsimp only at hw hB
                obtain ⟨hP1, -, hD1⟩ := hB
                rw [ht] at hP1
                obtain ⟨hP, hD⟩ := va_join (wr := []) (w1 := w4 b cI cZ tw nk pa nc fo th tg nt_n tb_n te_n tk_n tt_n ex tc es wy ab re go be_n) hP hD [0, 1, 2, 3, 4, 5, 6, 7, 8, 9, 10, 11, 12] [] rfl rfl (by decide) (by decide) hk1 hFc hP1 hD1
                generalize H1 = H at hP hS ⊢
                have hP : va_P (dC, dI) vwCl (w4 b cI cZ tw nk pa nc fo th tg nt_n tb_n te_n tk_n tt_n ex tc es wy ab re go be_n) H := hP
                have hD : va_D A (w4 b cI cZ tw nk pa nc fo th tg nt_n tb_n te_n tk_n tt_n ex tc es wy ab re go be_n) := hD
                obtain ⟨hw0, hw⟩ := hw
                subst hw0
                refine lv_if_ne (tgt := 57) hx hb dX4_joinOne_44 (by decide) (fun c_11 => ?_) (fun c_11 => ?_)
                · skip
                  have c9 : (kq v th nk nc up G T nt y z) = true := zb_1.mp c_11
                  obtain ⟨hw1, hw2⟩ := hw
                  rw [if_pos c9] at hw1 hw2
                  have hJ := jN_some (v := v) (th := th) (nc := nc) (G := G) (by omega) hnt hz c7 (by rw [c9]; rfl) hp8
                  rw [if_pos c9] at hJ
                  refine lv_iconst (v := 1) hx hb dX4_joinOne_57 (by decide) ?_
                  rw [← hQ]
                  have hP9 := hP
                  have hD9 := hD
                  exact W.zret (v := 1) hx hb hr rfl (fun t ht hW => ⟨⟨1, (nt_n, tb_n, te_n, tk_n, tt_n, be_n), rfl, (by rw [hJ]; exact ⟨rfl, _, by rw [hw1]; rfl, hw2⟩), (by rw [ht]; exact hP9), va_K.moved hW.alike hK, hD9⟩, hS.F ht⟩) hS.2.2 dX4_joinOne_58
                · skip
                  have c9 : (kq v th nk nc up G T nt y z) = false := zb_0.mp c_11
                  obtain ⟨hw1, hw2⟩ := hw
                  rw [if_neg (by rw [c9]; exact Bool.false_ne_true)] at hw1 hw2
                  have hw0 := hw1.symm
                  subst hw0
                  have hg9 := hw2
                  refine lv_aload_n hx hb dX4_joinOne_47 rfl (lv_at hl 0 rfl) ?_
                  refine lv_iload_n hx hb dX4_joinOne_48 rfl (lv_at hl 1 rfl) ?_
                  refine lv_iload_n hx hb dX4_joinOne_49 rfl (lv_at hl 2 rfl) ?_
                  refine lv_iload_n hx hb dX4_joinOne_50 rfl (lv_at hl 2 rfl) ?_
                  have hDc := hD
                  have hFc := va_free (wc := w4 b cI cZ tw nk pa nc fo th tg nt tb_n te_n tk_n tt_n ex tc es wy ab re go be_n) hD hS hA [0, 1, 2, 3, 4, 5, 6, 7, 8, 9, 10, 11, 12] rfl
                  refine va_calli (va_runV (As := [.int (nI y), .int (nI z), .int (nI z)]) (rest := []) ⟨hx, hb, hml, hown, hts⟩ (c_X4_tryJoin l dC dI cI cZ cJ b tw nk pa nc fo th tg nt tb_n te_n tk_n tt_n ex tc es wy ab re go be_n y z z y T up G v H.size (hg9) (by first | assumption | omega) (by omega) (by omega) (by omega) (Or.inr ⟨rfl, rfl⟩) (c7) (by first | assumption | omega) (by first | assumption | omega)) (cwV 3 hts gX4_joinOne_X4_tryJoin rfl rfl rfl (by decide +kernel) ⟨Nat.le_of_ble_eq_true rfl, Nat.le_of_ble_eq_true rfl⟩) ⟨zWr_blind, va_recv hK hP (ci := 4) (q0 := 0) rfl rfl, zWr_at hP hK hn (hDc.weaken (fun _ _ _ _ => trivial))⟩ rfl rfl hl.1 rfl (lv_room (Nat.le_of_ble_eq_true rfl)) dX4_joinOne_51 ⟨Nat.le_of_ble_eq_true rfl, Nat.le_of_ble_eq_true rfl⟩) hS (fun q _ h => hFc q h) hFc (fun r_12 u_9 t H1 locs ht hvm hw hB hz1 hk1 hS => ?_)
                  obtain ⟨nt_n, tb_n, te_n, tk_n, tt_n, be_n⟩ := u_9
                  dsimp only at hw hB
                  obtain ⟨hP1, -, hD1⟩ := hB
                  rw [ht] at hP1
                  obtain ⟨hP, hD⟩ := va_join (wr := []) (w1 := w4 b cI cZ tw nk pa nc fo th tg nt_n tb_n te_n tk_n tt_n ex tc es wy ab re go be_n) hP hD [0, 1, 2, 3, 4, 5, 6, 7, 8, 9, 10, 11, 12] [] rfl rfl (by decide) (by decide) hk1 hFc hP1 hD1
                  generalize H1 = H at hP hS ⊢
                  have hP : va_P (dC, dI) vwCl (w4 b cI cZ tw nk pa nc fo th tg nt_n tb_n te_n tk_n tt_n ex tc es wy ab re go be_n) H := hP
                  have hD : va_D A (w4 b cI cZ tw nk pa nc fo th tg nt_n tb_n te_n tk_n tt_n ex tc es wy ab re go be_n) := hD
                  obtain ⟨hw0, hw⟩ := hw
                  subst hw0
                  refine lv_if_eq (tgt := 59) hx hb dX4_joinOne_54 (by decide) (fun c_19 => ?_) (fun c_19 => ?_)
                  · skip
                    have c8 : (kq v th nk nc up G T nt z y) = false := zb_0.mp c_19
                    obtain ⟨hw1, hw2⟩ := hw
                    rw [if_neg (by rw [c8]; exact Bool.false_ne_true)] at hw1 hw2
                    have hw0 := hw1.symm
                    subst hw0
                    have hg9 := hw2
                    have hpf : (decide (y < z) && decide (z < nt) && decide (T 3 y = T 3 z) && ((kq v th nk nc up G T nt y z) || (kq v th nk nc up G T nt z y))) = false := by rw [c9, c8]; simp
                    refine lv_iinc (v := nI (z + 1)) (lv' := [(2, .int (nI (z + 1))), (0, .ref (b 0)), (1, .int (nI y))]) hx hb dX4_joinOne_59 hl (k := 2) rfl (zz_inc z 1) (by decide) rfl (fun ls hl => ?_)
                    refine lv_goto (tgt := 14) hx hb dX4_joinOne_62 (by decide) ?_
                    exact ih_14 (z + 1) tb_n te_n tk_n tt_n be_n _ _ _ (by first | assumption | omega) (by first | assumption | omega) hg9 (by
                            intro m hm
                            by_cases d : m < y * 24 + z
                            · exact hp8 m d
                            · have e1 : m = y * 24 + z := by omega
                              rw [e1, pj_at (by omega)]; exact hpf) (by omega) hP hD hS (lv_sub hl [1, 2, 0] rfl)
                  · skip
                    have c8 : (kq v th nk nc up G T nt z y) = true := zb_1.mp c_19
                    obtain ⟨hw1, hw2⟩ := hw
                    rw [if_pos c8] at hw1 hw2
                    have hJ := jN_some (v := v) (th := th) (nc := nc) (G := G) (by omega) hnt hz c7 (by rw [c8]; simp) hp8
                    rw [if_neg (by rw [c9]; exact Bool.false_ne_true)] at hJ
                    refine lv_iconst (v := 1) hx hb dX4_joinOne_57 (by decide) ?_
                    rw [← hQ]
                    have hP9 := hP
                    have hD9 := hD
                    exact W.zret (v := 1) hx hb hr rfl (fun t ht hW => ⟨⟨1, (nt_n, tb_n, te_n, tk_n, tt_n, be_n), rfl, (by rw [hJ]; exact ⟨rfl, _, by rw [hw1]; rfl, hw2⟩), (by rw [ht]; exact hP9), va_K.moved hW.alike hK, hD9⟩, hS.F ht⟩) hS.2.2 dX4_joinOne_58
        exact J_14 _ (y + 1) gb ge gk gt gbe _ _ _ (by first | assumption | omega) (by first | assumption | omega) hgg (by
                intro m hm
                by_cases d : m < y * 24
                · exact hp9 m d
                · have e1 : m = y * 24 + (m - y * 24) := by omega
                  rw [e1, pj_at (by omega), decide_eq_false (p := y < m - y * 24) (by omega)]; simp) (Nat.lt_succ_self _) hP hD hS (lv_sub hl [1, 2, 0] rfl)
  exact J_2 _ 0 tb te tk tt be _ _ _ (by first | assumption | omega) hg (fun m hm => absurd hm (by omega)) (Nat.lt_succ_self _) hP hD hS (lv_sub hl [1, 0] rfl)

set_option maxHeartbeats 4000000 in
set_option maxRecDepth 100000 in
theorem c_X4_joinAll (l : Launch) (dC : Nat → ClassId) (dI : Nat → Nat → Nat) (cI cZ cJ : ClassId) (b : Nat → Nat) (tw : Int32) (nk : Nat) (pa : Nat → Int32) (nc : Nat) (fo : Nat → Int32) (th : Nat → Int32) (tg : Nat → Int32) (nt : Nat) (tb : Nat → Int32) (te : Nat → Int32) (tk : Nat → Int32) (tt : Nat → Int32) (ex : Int32) (tc : Int32) (es : Int32) (wy : Int64) (ab : Nat → Int32) (re : Nat → Int32) (go : Nat → Int32) (be : Nat → Int32) (T : Nat → Nat → Nat) (up : Nat → Nat → Bool) (sz : Nat) (hg : g4 nk ab up nt tb te tk tt T) (hc : okC nk nc fo th tg) : Met l yX4_joinAll wsX4_joinAll ({ frames := 6, cells := 0, slots := 0, locals := 137 } : Room) (va_Pc [.ref (b 0)] (zWr (dC, dI) [(cI, .int), (cZ, .boolean), (cJ, .long)] (w4 b cI cZ tw nk pa nc fo th tg nt tb te tk tt ex tc es wy ab re go be) sz)) (va_Qi (fun (r : Int32) (u : (Nat → Int32) × (Nat → Int32) × Nat × (Nat → Int32) × (Nat → Int32) × (Nat → Int32) × (Nat → Int32) × (Nat → Int32)) => match u with | (re9, go9, nt9, tb9, te9, tk9, tt9, be9) => r = nI ((jR nk nc fo th tg up (T, nt)).2) ∧ nt9 = (jR nk nc fo th tg up (T, nt)).1.2 ∧ g4 nk ab up nt9 tb9 te9 tk9 tt9 (jR nk nc fo th tg up (T, nt)).1.1) (fun u t => match u with | (re9, go9, nt9, tb9, te9, tk9, tt9, be9) => zWo (dC, dI) [(cI, .int), (cZ, .boolean), (cJ, .long)] (w4 b cI cZ tw nk pa nc fo th tg nt9 tb9 te9 tk9 tt9 ex tc es wy ab re9 go9 be9) (va_A (w4 b cI cZ tw nk pa nc fo th tg nt tb te tk tt ex tc es wy ab re go be) sz) t) (va_A (w4 b cI cZ tw nk pa nc fo th tg nt tb te tk tt ex tc es wy ab re go be) sz)) 0 0 (va_A (w4 b cI cZ tw nk pa nc fo th tg nt tb te tk tt ex tc es wy ab re go be) sz) := by
  refine Met.ofW (cc := cX4_joinAll) (maxL := 2) (ret := (some .int)) (by decide) rfl ?_
  intro p e s m args below meth c s₁ B hml hv
  obtain ⟨hav, hsz, ⟨hP, hK, hn⟩, hD0⟩ := hv
  have hx := B.exec
  have hb := B.bytes
  have hr := B.returns
  have hts := atoms_spec (ws := wsX4_joinAll) B.pre
  have hown : s.vm.findClass RX4 = some m.cls := findClass_of_methodNamed B.named
  have hlocks := B.notSynchronized
  subst hsz
  have hD := hD0.self (sz := s.heap.size)
  generalize hAe : (va_A (w4 b cI cZ tw nk pa nc fo th tg nt tb te tk tt ex tc es wy ab re go be) s.heap.size) = A at hD ⊢
  have hA : ∀ q : Nat, s.heap.size ≤ q → A q := fun q h => by rw [← hAe]; exact Or.inr h
  have hS : va_S A s.heap s.heap [] := va_S.rf
  generalize hQ : MQ below (va_Qi (fun (r : Int32) (u : (Nat → Int32) × (Nat → Int32) × Nat × (Nat → Int32) × (Nat → Int32) × (Nat → Int32) × (Nat → Int32) × (Nat → Int32)) => match u with | (re9, go9, nt9, tb9, te9, tk9, tt9, be9) => r = nI ((jR nk nc fo th tg up (T, nt)).2) ∧ nt9 = (jR nk nc fo th tg up (T, nt)).1.2 ∧ g4 nk ab up nt9 tb9 te9 tk9 tt9 (jR nk nc fo th tg up (T, nt)).1.1) (fun u t => match u with | (re9, go9, nt9, tb9, te9, tk9, tt9, be9) => zWo (dC, dI) [(cI, .int), (cZ, .boolean), (cJ, .long)] (w4 b cI cZ tw nk pa nc fo th tg nt9 tb9 te9 tk9 tt9 ex tc es wy ab re9 go9 be9) A t) A) args s 0 0 A = Q
  refine W.eq (g2 := entryFrame m ([.ref (b 0)] : List Value).toArray 2) (by rw [hav]) ?_
  have hl := lv_entry ([.ref (b 0)]) (n := 2) (Nat.le_of_ble_eq_true rfl)
  rw [lg_entry_eq]
  generalize (lg_sl ([.ref (b 0)]) ++ List.replicate (2 - (lg_sl ([.ref (b 0)])).length) Slot.unset).toArray = ls at hl ⊢
  have hl : lv_has ls 2 [(0, .ref (b 0))] := hl
  obtain ⟨H, hH⟩ : ∃ H, H = s.heap := ⟨_, rfl⟩
  obtain ⟨locs, hlo⟩ : ∃ q : List Loc, q = [] := ⟨_, rfl⟩
  have hP : va_P (dC, dI) vwCl (w4 b cI cZ tw nk pa nc fo th tg nt tb te tk tt ex tc es wy ab re go be) H := by rw [hH]; exact hP
  have hS : va_S A s.heap H locs := by rw [hH, hlo]; exact hS
  refine zz_hl hH hlo ?_
  obtain ⟨hk01, hk8, hnt, hT, hO, hF, hU⟩ := id hg
  obtain ⟨hnc, hC⟩ := id hc
  refine lv_aload_n hx hb dX4_joinAll_0 rfl (lv_at hl 0 rfl) ?_
  have hDc := hD
  have hFc := va_free (wc := w4 b cI cZ tw nk pa nc fo th tg nt tb te tk tt ex tc es wy ab re go be) hD hS hA [0, 1, 2, 3, 4, 5, 6, 7, 8, 9, 10, 11, 12] rfl
  refine va_callv (va_runV (As := []) (rest := []) ⟨hx, hb, hml, hown, hts⟩ (c_X4_reach l dC dI cI cZ cJ b tw nk pa nc fo th tg nt tb te tk tt ex tc es wy ab re go be T up H.size (by first | assumption | omega) (by first | assumption | omega)) (cwV 0 hts gX4_joinAll_X4_reach rfl rfl rfl (by decide +kernel) ⟨Nat.le_of_ble_eq_true rfl, Nat.le_of_ble_eq_true rfl⟩) ⟨zWr_blind, va_recv hK hP (ci := 4) (q0 := 0) rfl rfl, zWr_at hP hK hn (hDc.weaken (fun _ _ _ _ => trivial))⟩ rfl rfl hl.1 rfl (lv_room (Nat.le_of_ble_eq_true rfl)) dX4_joinAll_1 ⟨Nat.le_of_ble_eq_true rfl, Nat.le_of_ble_eq_true rfl⟩) hS (fun q _ h => hFc q h) hFc (fun u_9 t H1 locs ht hvm hw hB hz1 hk1 hS => ?_)
  obtain ⟨re_n, rfl⟩ : ∃ z, z = u_9 := ⟨_, rfl⟩
  obtain ⟨hP1, -, hD1⟩ := hB
  rw [ht] at hP1
  obtain ⟨hP, hD⟩ := va_join (wr := []) (w1 := w4 b cI cZ tw nk pa nc fo th tg nt tb te tk tt ex tc es wy ab re_n go be) hP hD [0, 1, 2, 3, 4, 5, 6, 7, 8, 9, 10, 11, 12] [] rfl rfl (by decide) (by decide) hk1 hFc hP1 hD1
  generalize H1 = H at hP hS ⊢
  have hP : va_P (dC, dI) vwCl (w4 b cI cZ tw nk pa nc fo th tg nt tb te tk tt ex tc es wy ab re_n go be) H := hP
  have hD : va_D A (w4 b cI cZ tw nk pa nc fo th tg nt tb te tk tt ex tc es wy ab re_n go be) := hD
  have hre := hw
  refine lv_aload_n hx hb dX4_joinAll_4 rfl (lv_at hl 0 rfl) ?_
  have hDc := hD
  have hFc := va_free (wc := w4 b cI cZ tw nk pa nc fo th tg nt tb te tk tt ex tc es wy ab re_n go be) hD hS hA [0, 1, 2, 3, 4, 5, 6, 7, 8, 9, 10, 11, 12] rfl
  refine va_callv (va_runV (As := []) (rest := []) ⟨hx, hb, hml, hown, hts⟩ (c_X4_remember l dC dI cI cZ cJ b tw nk pa nc fo th tg nt tb te tk tt ex tc es wy ab re_n go be T up H.size (by first | assumption | omega) (by first | assumption | omega)) (cwV 0 hts gX4_joinAll_X4_remember rfl rfl rfl (by decide +kernel) ⟨Nat.le_of_ble_eq_true rfl, Nat.le_of_ble_eq_true rfl⟩) ⟨zWr_blind, va_recv hK hP (ci := 4) (q0 := 0) rfl rfl, zWr_at hP hK hn (hDc.weaken (fun _ _ _ _ => trivial))⟩ rfl rfl hl.1 rfl (lv_room (Nat.le_of_ble_eq_true rfl)) dX4_joinAll_5 ⟨Nat.le_of_ble_eq_true rfl, Nat.le_of_ble_eq_true rfl⟩) hS (fun q _ h => hFc q h) hFc (fun u_9 t H1 locs ht hvm hw hB hz1 hk1 hS => ?_)
  obtain ⟨go_n, rfl⟩ : ∃ z, z = u_9 := ⟨_, rfl⟩
  obtain ⟨hP1, -, hD1⟩ := hB
  rw [ht] at hP1
  obtain ⟨hP, hD⟩ := va_join (wr := []) (w1 := w4 b cI cZ tw nk pa nc fo th tg nt tb te tk tt ex tc es wy ab re_n go_n be) hP hD [0, 1, 2, 3, 4, 5, 6, 7, 8, 9, 10, 11, 12] [] rfl rfl (by decide) (by decide) hk1 hFc hP1 hD1
  generalize H1 = H at hP hS ⊢
  have hP : va_P (dC, dI) vwCl (w4 b cI cZ tw nk pa nc fo th tg nt tb te tk tt ex tc es wy ab re_n go_n be) H := hP
  have hD : va_D A (w4 b cI cZ tw nk pa nc fo th tg nt tb te tk tt ex tc es wy ab re_n go_n be) := hD
  have hgo := hw
  refine lv_iconst (v := 0) hx hb dX4_joinAll_8 (by decide) ?_
  refine lv_istore_n (lv' := [(1, .int 0), (0, .ref (b 0))]) hx hb dX4_joinAll_9 rfl hl (by decide) rfl (fun ls hl => ?_)
  have J_10 : ∀ (n9 : Nat) (y : Nat) (gn0 : Nat) (D : Nat → Nat → Nat) (gb : Nat → Int32) (ge : Nat → Int32) (gk : Nat → Int32) (gt : Nat → Int32) (gbe : Nat → Int32) (H : Heap) (locs : List Loc) (ls : Array Slot), (y + gn0 = nt) → (g4 nk ab up gn0 gb ge gk gt D) → (jR nk nc fo th tg up (T, nt) = jLp (jN (RB nk nc fo th tg T nt up) th nk nc up (gl T nt up)) (24 - y) ((D, gn0), y)) → gn0 < n9 → va_P (dC, dI) vwCl (w4 b cI cZ tw nk pa nc fo th tg gn0 gb ge gk gt ex tc es wy ab re_n go_n gbe) H → va_D A (w4 b cI cZ tw nk pa nc fo th tg gn0 gb ge gk gt ex tc es wy ab re_n go_n gbe) → va_S A s.heap H locs → lv_has ls 2 [(0, .ref (b 0)), (1, .int (nI y))] → W p l e (headSpec wsX4_joinAll ({ frames := 6, cells := 0, slots := 0, locals := 137 } : Room)).room s m args below meth c H locs 0 0 Q (F0 m 10 ls []) := by
    intro n9
    induction n9 with
    | zero => intro y gn0 D gb ge gk gt gbe H locs ls hy hgg hq hmu; exact absurd hmu (Nat.not_lt_zero _)
    | succ n9 ih_10 =>
      intro y gn0 D gb ge gk gt gbe H locs ls hy hgg hq hmu hP hD hS hl
      refine lv_aload_n hx hb dX4_joinAll_10 rfl (lv_at hl 0 rfl) ?_
      have hDc := hD
      have hFc := va_free (wc := w4 b cI cZ tw nk pa nc fo th tg gn0 gb ge gk gt ex tc es wy ab re_n go_n gbe) hD hS hA [0, 1, 2, 3, 4, 5, 6, 7, 8, 9, 10, 11, 12] rfl
      refine va_calli (va_runV (As := []) (rest := []) ⟨hx, hb, hml, hown, hts⟩ (c_X4_joinOne l dC dI cI cZ cJ b tw nk pa nc fo th tg gn0 gb ge gk gt ex tc es wy ab re_n go_n gbe D up (gl T nt up) (RB nk nc fo th tg T nt up) H.size (hgg) (by first | assumption | omega) (hre) (hgo)) (cwV 0 hts gX4_joinAll_X4_joinOne rfl rfl rfl (by decide +kernel) ⟨Nat.le_of_ble_eq_true rfl, Nat.le_of_ble_eq_true rfl⟩) ⟨zWr_blind, va_recv hK hP (ci := 4) (q0 := 0) rfl rfl, zWr_at hP hK hn (hDc.weaken (fun _ _ _ _ => trivial))⟩ rfl rfl hl.1 rfl (lv_room (Nat.le_of_ble_eq_true rfl)) dX4_joinAll_11 ⟨Nat.le_of_ble_eq_true rfl, Nat.le_of_ble_eq_true rfl⟩) hS (fun q _ h => hFc q h) hFc (fun r_5 u_9 t H1 locs ht hvm hw hB hz1 hk1 hS => ?_)
      obtain ⟨nt_n, tb_n, te_n, tk_n, tt_n, be_n⟩ := u_9
      dsimp only at hw hB
      obtain ⟨hP1, -, hD1⟩ := hB
      rw [ht] at hP1
      obtain ⟨hP, hD⟩ := va_join (wr := []) (w1 := w4 b cI cZ tw nk pa nc fo th tg nt_n tb_n te_n tk_n tt_n ex tc es wy ab re_n go_n be_n) hP hD [0, 1, 2, 3, 4, 5, 6, 7, 8, 9, 10, 11, 12] [] rfl rfl (by decide) (by decide) hk1 hFc hP1 hD1
      generalize H1 = H at hP hS ⊢
      have hP : va_P (dC, dI) vwCl (w4 b cI cZ tw nk pa nc fo th tg nt_n tb_n te_n tk_n tt_n ex tc es wy ab re_n go_n be_n) H := hP
      have hD : va_D A (w4 b cI cZ tw nk pa nc fo th tg nt_n tb_n te_n tk_n tt_n ex tc es wy ab re_n go_n be_n) := hD
      obtain ⟨hw0, hw⟩ := hw
      subst hw0
      refine lv_if_eq (tgt := 23) hx hb dX4_joinAll_14 (by decide) (fun c_12 => ?_) (fun c_12 => ?_)
      · skip
        have c9 := zb_0.mp c_12
        obtain ⟨D9, hw1, hg9⟩ := hw
        have hn9 := Option.not_isSome_iff_eq_none.mp (by rw [c9]; exact Bool.false_ne_true)
        rw [hn9] at hw1
        obtain ⟨rfl, rfl⟩ := Prod.mk.inj hw1
        have hq9 : jR nk nc fo th tg up (T, nt) = ((D, gn0), y) := by rw [hq]; exact jLp_none hn9
        refine lv_iload_n hx hb dX4_joinAll_23 rfl (lv_at hl 1 rfl) ?_
        rw [← hQ]
        have hP9 := hP
        have hD9 := hD
        exact W.iret (v := nI y) hx hb hr (fun t ht hW => ⟨⟨nI y, (re_n, go_n, gn0, tb_n, te_n, tk_n, tt_n, be_n), rfl, (by rw [hq9]; exact ⟨rfl, rfl, hg9⟩), (by rw [ht]; exact hP9), va_K.moved hW.alike hK, hD9⟩, hS.F ht⟩) hS.2.2 dX4_joinAll_24
      · skip
        have c9 := zb_1.mp c_12
        obtain ⟨D9, hw1, hg9⟩ := hw
        obtain ⟨q9, hsm0⟩ := Option.isSome_iff_exists.mp c9
        have hsm : (jN (RB nk nc fo th tg T nt up) th nk nc up (gl T nt up)) (D, gn0) = some (D9, nt_n) := by rw [hsm0] at hw1 ⊢; exact congrArg some hw1
        have hpos := jN_pos hsm
        refine lv_iinc (v := nI (y + 1)) (lv' := [(1, .int (nI (y + 1))), (0, .ref (b 0))]) hx hb dX4_joinAll_17 hl (k := 1) rfl (zz_inc y 1) (by decide) rfl (fun ls hl => ?_)
        refine lv_goto (tgt := 10) hx hb dX4_joinAll_20 (by decide) ?_
        exact ih_10 (y + 1) nt_n D9 tb_n te_n tk_n tt_n be_n _ _ _ (by omega) hg9 (by rw [hq, show 24 - y = (24 - (y + 1)) + 1 from by omega]; simp only [jLp]; rw [hsm]) (by omega) hP hD hS (lv_sub hl [1, 0] rfl)
  exact J_10 _ 0 nt T tb te tk tt be _ _ _ (by omega) hg rfl (Nat.lt_succ_self _) hP hD hS (lv_sub hl [1, 0] rfl)

set_option maxHeartbeats 4000000 in
set_option maxRecDepth 100000 in
theorem c_X4_drop (l : Launch) (dC : Nat → ClassId) (dI : Nat → Nat → Nat) (cI cZ cJ : ClassId) (b : Nat → Nat) (tw : Int32) (nk : Nat) (pa : Nat → Int32) (nc : Nat) (fo : Nat → Int32) (th : Nat → Int32) (tg : Nat → Int32) (nt : Nat) (tb : Nat → Int32) (te : Nat → Int32) (tk : Nat → Int32) (tt : Nat → Int32) (ex : Int32) (tc : Int32) (es : Int32) (wy : Int64) (ab : Nat → Int32) (re : Nat → Int32) (go : Nat → Int32) (be : Nat → Int32) (T : Nat → Nat → Nat) (up : Nat → Nat → Bool) (sz : Nat) (hg : g4 nk ab up nt tb te tk tt T) (hc : okC nk nc fo th tg) : Met l yX4_drop wsX4_drop ({ frames := 5, cells := 1, slots := 24, locals := 114 } : Room) (va_Pc [.ref (b 0)] (zWr (dC, dI) [(cI, .int), (cZ, .boolean), (cJ, .long)] (w4 b cI cZ tw nk pa nc fo th tg nt tb te tk tt ex tc es wy ab re go be) sz)) (va_Qi (fun (r : Int32) (u : (Nat → Int32) × Nat × (Nat → Int32) × (Nat → Int32) × (Nat → Int32) × (Nat → Int32)) => match u with | (re9, nt9, tb9, te9, tk9, tt9) => r = nI (nt - (dR nk nc fo th tg up (T, nt)).2) ∧ nt9 = (dR nk nc fo th tg up (T, nt)).2 ∧ g4 nk ab up nt9 tb9 te9 tk9 tt9 (dR nk nc fo th tg up (T, nt)).1) (fun u t => match u with | (re9, nt9, tb9, te9, tk9, tt9) => zWo (dC, dI) [(cI, .int), (cZ, .boolean), (cJ, .long)] (w4 b cI cZ 0 nk pa nc fo th tg nt9 tb9 te9 tk9 tt9 ex tc es wy ab re9 go be) (va_A (w4 b cI cZ tw nk pa nc fo th tg nt tb te tk tt ex tc es wy ab re go be) sz) t) (va_A (w4 b cI cZ tw nk pa nc fo th tg nt tb te tk tt ex tc es wy ab re go be) sz)) 1 24 (va_A (w4 b cI cZ tw nk pa nc fo th tg nt tb te tk tt ex tc es wy ab re go be) sz) := by
  refine Met.ofW (cc := cX4_drop) (maxL := 1) (ret := (some .int)) (by decide) rfl ?_
  intro p e s m args below meth c s₁ B hml hv
  obtain ⟨hav, hsz, ⟨hP, hK, hn⟩, hD0⟩ := hv
  have hx := B.exec
  have hb := B.bytes
  have hr := B.returns
  have hts := atoms_spec (ws := wsX4_drop) B.pre
  have hown : s.vm.findClass RX4 = some m.cls := findClass_of_methodNamed B.named
  have hlocks := B.notSynchronized
  subst hsz
  have hD := hD0.self (sz := s.heap.size)
  generalize hAe : (va_A (w4 b cI cZ tw nk pa nc fo th tg nt tb te tk tt ex tc es wy ab re go be) s.heap.size) = A at hD ⊢
  have hA : ∀ q : Nat, s.heap.size ≤ q → A q := fun q h => by rw [← hAe]; exact Or.inr h
  have hS : va_S A s.heap s.heap [] := va_S.rf
  generalize hQ : MQ below (va_Qi (fun (r : Int32) (u : (Nat → Int32) × Nat × (Nat → Int32) × (Nat → Int32) × (Nat → Int32) × (Nat → Int32)) => match u with | (re9, nt9, tb9, te9, tk9, tt9) => r = nI (nt - (dR nk nc fo th tg up (T, nt)).2) ∧ nt9 = (dR nk nc fo th tg up (T, nt)).2 ∧ g4 nk ab up nt9 tb9 te9 tk9 tt9 (dR nk nc fo th tg up (T, nt)).1) (fun u t => match u with | (re9, nt9, tb9, te9, tk9, tt9) => zWo (dC, dI) [(cI, .int), (cZ, .boolean), (cJ, .long)] (w4 b cI cZ 0 nk pa nc fo th tg nt9 tb9 te9 tk9 tt9 ex tc es wy ab re9 go be) A t) A) args s 1 24 A = Q
  refine W.eq (g2 := entryFrame m ([.ref (b 0)] : List Value).toArray 1) (by rw [hav]) ?_
  have hl := lv_entry ([.ref (b 0)]) (n := 1) (Nat.le_of_ble_eq_true rfl)
  rw [lg_entry_eq]
  generalize (lg_sl ([.ref (b 0)]) ++ List.replicate (1 - (lg_sl ([.ref (b 0)])).length) Slot.unset).toArray = ls at hl ⊢
  have hl : lv_has ls 1 [(0, .ref (b 0))] := hl
  obtain ⟨H, hH⟩ : ∃ H, H = s.heap := ⟨_, rfl⟩
  obtain ⟨locs, hlo⟩ : ∃ q : List Loc, q = [] := ⟨_, rfl⟩
  have hP : va_P (dC, dI) vwCl (w4 b cI cZ tw nk pa nc fo th tg nt tb te tk tt ex tc es wy ab re go be) H := by rw [hH]; exact hP
  have hS : va_S A s.heap H locs := by rw [hH, hlo]; exact hS
  refine zz_hl hH hlo ?_
  refine lv_aload_n hx hb dX4_drop_0 rfl (lv_at hl 0 rfl) ?_
  refine lv_iconst (v := 0) hx hb dX4_drop_1 (by decide) ?_
  refine va_put (D := (dC, dI)) (ci := 4) (v := .int 0) (ty := .int) (C := RX4) (T := TX4) (N := 20) hx hb hts (by decide +kernel) tyX4 tyX4_ok nmX4 hown hK hP hD hS 0 rfl rfl 0 (by decide) (hts (.fieldLink RX4 54 "HandlerOptimizerModel" "thrown" "I") (by decide +kernel)) (fun _ h9 => h9) rfl (by decide +kernel) rfl rfl (Nat.le_of_ble_eq_true rfl) dX4_drop_2 (fun H locs hP hD hS => ?_)
  have hP : va_P (dC, dI) vwCl (w4 b cI cZ 0 nk pa nc fo th tg nt tb te tk tt ex tc es wy ab re go be) H := hP
  have hD : va_D A (w4 b cI cZ 0 nk pa nc fo th tg nt tb te tk tt ex tc es wy ab re go be) := hD
  refine lv_aload_n hx hb dX4_drop_5 rfl (lv_at hl 0 rfl) ?_
  have hDc := hD
  have hFc := va_free (wc := w4 b cI cZ 0 nk pa nc fo th tg nt tb te tk tt ex tc es wy ab re go be) hD hS hA [0, 1, 2, 3, 4, 5, 6, 7, 8, 9, 10, 11, 12] rfl
  refine va_calli (va_runV (As := []) (rest := []) ⟨hx, hb, hml, hown, hts⟩ (c_X4_dropAll l dC dI cI cZ cJ b 0 nk pa nc fo th tg nt tb te tk tt ex tc es wy ab re go be T up H.size (by first | assumption | omega) (by first | assumption | omega)) (cwV 0 hts gX4_drop_X4_dropAll rfl rfl rfl (by decide +kernel) ⟨Nat.le_of_ble_eq_true rfl, Nat.le_of_ble_eq_true rfl⟩) ⟨zWr_blind, va_recv hK hP (ci := 4) (q0 := 0) rfl rfl, zWr_at hP hK hn (hDc.weaken (fun _ _ _ _ => trivial))⟩ rfl rfl hl.1 rfl (lv_room (Nat.le_of_ble_eq_true rfl)) dX4_drop_6 ⟨Nat.le_of_ble_eq_true rfl, Nat.le_of_ble_eq_true rfl⟩) hS (fun q _ h => hFc q h) hFc (fun r_1 u_9 t H1 locs ht hvm hw hB hz1 hk1 hS => ?_)
  obtain ⟨re9_1, nt9_2, tb9_3, te9_4, tk9_5, tt9_6⟩ := u_9
  dsimp only at hw hB
  obtain ⟨hP1, -, hD1⟩ := hB
  rw [ht] at hP1
  obtain ⟨hP, hD⟩ := va_join (wr := []) (w1 := w4 b cI cZ 0 nk pa nc fo th tg nt9_2 tb9_3 te9_4 tk9_5 tt9_6 ex tc es wy ab re9_1 go be) hP hD [0, 1, 2, 3, 4, 5, 6, 7, 8, 9, 10, 11, 12] [] rfl rfl (by decide) (by decide) hk1 hFc hP1 hD1
  generalize H1 = H at hP hS ⊢
  have hP : va_P (dC, dI) vwCl (w4 b cI cZ 0 nk pa nc fo th tg nt9_2 tb9_3 te9_4 tk9_5 tt9_6 ex tc es wy ab re9_1 go be) H := hP
  have hD : va_D A (w4 b cI cZ 0 nk pa nc fo th tg nt9_2 tb9_3 te9_4 tk9_5 tt9_6 ex tc es wy ab re9_1 go be) := hD
  refine W.widen (k := 1) (n := 24) (by omega) (by omega) ?_
  obtain ⟨hw0, hw⟩ := hw
  subst hw0
  rw [← hQ]
  have hP9 := hP
  have hD9 := hD
  exact W.iret (v := nI (nt - (dR nk nc fo th tg up (T, nt)).2)) hx hb hr (fun t ht hW => ⟨⟨nI (nt - (dR nk nc fo th tg up (T, nt)).2), (re9_1, nt9_2, tb9_3, te9_4, tk9_5, tt9_6), rfl, (⟨rfl, hw⟩), (by rw [ht]; exact hP9), va_K.moved hW.alike hK, hD9⟩, hS.F ht⟩) hS.2.2 dX4_drop_9

set_option maxHeartbeats 4000000 in
set_option maxRecDepth 100000 in
theorem c_X4_shrink (l : Launch) (dC : Nat → ClassId) (dI : Nat → Nat → Nat) (cI cZ cJ : ClassId) (b : Nat → Nat) (tw : Int32) (nk : Nat) (pa : Nat → Int32) (nc : Nat) (fo : Nat → Int32) (th : Nat → Int32) (tg : Nat → Int32) (nt : Nat) (tb : Nat → Int32) (te : Nat → Int32) (tk : Nat → Int32) (tt : Nat → Int32) (ex : Int32) (tc : Int32) (es : Int32) (wy : Int64) (ab : Nat → Int32) (re : Nat → Int32) (go : Nat → Int32) (be : Nat → Int32) (T : Nat → Nat → Nat) (up : Nat → Nat → Bool) (sz : Nat) (hg : g4 nk ab up nt tb te tk tt T) (hc : okC nk nc fo th tg) : Met l yX4_shrink wsX4_shrink ({ frames := 5, cells := 2, slots := 48, locals := 115 } : Room) (va_Pc [.ref (b 0)] (zWr (dC, dI) [(cI, .int), (cZ, .boolean), (cJ, .long)] (w4 b cI cZ tw nk pa nc fo th tg nt tb te tk tt ex tc es wy ab re go be) sz)) (va_Qi (fun (r : Int32) (u : (Nat → Int32) × (Nat → Int32) × (Nat → Int32)) => match u with | (re9, tb9, te9) => r = nI (sRc nk nc fo th tg up (T, nt)) ∧ g4 nk ab up nt tb9 te9 tk tt (sR nk nc fo th tg up (T, nt)).1) (fun u t => match u with | (re9, tb9, te9) => zWo (dC, dI) [(cI, .int), (cZ, .boolean), (cJ, .long)] (w4 b cI cZ 0 nk pa nc fo th tg nt tb9 te9 tk tt ex tc es wy ab re9 go be) (va_A (w4 b cI cZ tw nk pa nc fo th tg nt tb te tk tt ex tc es wy ab re go be) sz) t) (va_A (w4 b cI cZ tw nk pa nc fo th tg nt tb te tk tt ex tc es wy ab re go be) sz)) 2 48 (va_A (w4 b cI cZ tw nk pa nc fo th tg nt tb te tk tt ex tc es wy ab re go be) sz) := by
  refine Met.ofW (cc := cX4_shrink) (maxL := 1) (ret := (some .int)) (by decide) rfl ?_
  intro p e s m args below meth c s₁ B hml hv
  obtain ⟨hav, hsz, ⟨hP, hK, hn⟩, hD0⟩ := hv
  have hx := B.exec
  have hb := B.bytes
  have hr := B.returns
  have hts := atoms_spec (ws := wsX4_shrink) B.pre
  have hown : s.vm.findClass RX4 = some m.cls := findClass_of_methodNamed B.named
  have hlocks := B.notSynchronized
  subst hsz
  have hD := hD0.self (sz := s.heap.size)
  generalize hAe : (va_A (w4 b cI cZ tw nk pa nc fo th tg nt tb te tk tt ex tc es wy ab re go be) s.heap.size) = A at hD ⊢
  have hA : ∀ q : Nat, s.heap.size ≤ q → A q := fun q h => by rw [← hAe]; exact Or.inr h
  have hS : va_S A s.heap s.heap [] := va_S.rf
  generalize hQ : MQ below (va_Qi (fun (r : Int32) (u : (Nat → Int32) × (Nat → Int32) × (Nat → Int32)) => match u with | (re9, tb9, te9) => r = nI (sRc nk nc fo th tg up (T, nt)) ∧ g4 nk ab up nt tb9 te9 tk tt (sR nk nc fo th tg up (T, nt)).1) (fun u t => match u with | (re9, tb9, te9) => zWo (dC, dI) [(cI, .int), (cZ, .boolean), (cJ, .long)] (w4 b cI cZ 0 nk pa nc fo th tg nt tb9 te9 tk tt ex tc es wy ab re9 go be) A t) A) args s 2 48 A = Q
  refine W.eq (g2 := entryFrame m ([.ref (b 0)] : List Value).toArray 1) (by rw [hav]) ?_
  have hl := lv_entry ([.ref (b 0)]) (n := 1) (Nat.le_of_ble_eq_true rfl)
  rw [lg_entry_eq]
  generalize (lg_sl ([.ref (b 0)]) ++ List.replicate (1 - (lg_sl ([.ref (b 0)])).length) Slot.unset).toArray = ls at hl ⊢
  have hl : lv_has ls 1 [(0, .ref (b 0))] := hl
  obtain ⟨H, hH⟩ : ∃ H, H = s.heap := ⟨_, rfl⟩
  obtain ⟨locs, hlo⟩ : ∃ q : List Loc, q = [] := ⟨_, rfl⟩
  have hP : va_P (dC, dI) vwCl (w4 b cI cZ tw nk pa nc fo th tg nt tb te tk tt ex tc es wy ab re go be) H := by rw [hH]; exact hP
  have hS : va_S A s.heap H locs := by rw [hH, hlo]; exact hS
  refine zz_hl hH hlo ?_
  refine lv_aload_n hx hb dX4_shrink_0 rfl (lv_at hl 0 rfl) ?_
  refine lv_iconst (v := 0) hx hb dX4_shrink_1 (by decide) ?_
  refine va_put (D := (dC, dI)) (ci := 4) (v := .int 0) (ty := .int) (C := RX4) (T := TX4) (N := 20) hx hb hts (by decide +kernel) tyX4 tyX4_ok nmX4 hown hK hP hD hS 0 rfl rfl 0 (by decide) (hts (.fieldLink RX4 54 "HandlerOptimizerModel" "thrown" "I") (by decide +kernel)) (fun _ h9 => h9) rfl (by decide +kernel) rfl rfl (Nat.le_of_ble_eq_true rfl) dX4_shrink_2 (fun H locs hP hD hS => ?_)
  have hP : va_P (dC, dI) vwCl (w4 b cI cZ 0 nk pa nc fo th tg nt tb te tk tt ex tc es wy ab re go be) H := hP
  have hD : va_D A (w4 b cI cZ 0 nk pa nc fo th tg nt tb te tk tt ex tc es wy ab re go be) := hD
  refine lv_aload_n hx hb dX4_shrink_5 rfl (lv_at hl 0 rfl) ?_
  have hDc := hD
  have hFc := va_free (wc := w4 b cI cZ 0 nk pa nc fo th tg nt tb te tk tt ex tc es wy ab re go be) hD hS hA [0, 1, 2, 3, 4, 5, 6, 7, 8, 9, 10, 11, 12] rfl
  refine va_calli (va_runV (As := []) (rest := []) ⟨hx, hb, hml, hown, hts⟩ (c_X4_shrinkAll l dC dI cI cZ cJ b 0 nk pa nc fo th tg nt tb te tk tt ex tc es wy ab re go be T up H.size (by first | assumption | omega) (by first | assumption | omega)) (cwV 0 hts gX4_shrink_X4_shrinkAll rfl rfl rfl (by decide +kernel) ⟨Nat.le_of_ble_eq_true rfl, Nat.le_of_ble_eq_true rfl⟩) ⟨zWr_blind, va_recv hK hP (ci := 4) (q0 := 0) rfl rfl, zWr_at hP hK hn (hDc.weaken (fun _ _ _ _ => trivial))⟩ rfl rfl hl.1 rfl (lv_room (Nat.le_of_ble_eq_true rfl)) dX4_shrink_6 ⟨Nat.le_of_ble_eq_true rfl, Nat.le_of_ble_eq_true rfl⟩) hS (fun q _ h => hFc q h) hFc (fun r_1 u_9 t H1 locs ht hvm hw hB hz1 hk1 hS => ?_)
  obtain ⟨re9_1, tb9_2, te9_3⟩ := u_9
  dsimp only at hw hB
  obtain ⟨hP1, -, hD1⟩ := hB
  rw [ht] at hP1
  obtain ⟨hP, hD⟩ := va_join (wr := []) (w1 := w4 b cI cZ 0 nk pa nc fo th tg nt tb9_2 te9_3 tk tt ex tc es wy ab re9_1 go be) hP hD [0, 1, 2, 3, 4, 5, 6, 7, 8, 9, 10, 11, 12] [] rfl rfl (by decide) (by decide) hk1 hFc hP1 hD1
  generalize H1 = H at hP hS ⊢
  have hP : va_P (dC, dI) vwCl (w4 b cI cZ 0 nk pa nc fo th tg nt tb9_2 te9_3 tk tt ex tc es wy ab re9_1 go be) H := hP
  have hD : va_D A (w4 b cI cZ 0 nk pa nc fo th tg nt tb9_2 te9_3 tk tt ex tc es wy ab re9_1 go be) := hD
  refine W.widen (k := 2) (n := 48) (by omega) (by omega) ?_
  obtain ⟨hw0, hw⟩ := hw
  subst hw0
  rw [← hQ]
  have hP9 := hP
  have hD9 := hD
  exact W.iret (v := nI (sRc nk nc fo th tg up (T, nt))) hx hb hr (fun t ht hW => ⟨⟨nI (sRc nk nc fo th tg up (T, nt)), (re9_1, tb9_2, te9_3), rfl, (⟨rfl, hw⟩), (by rw [ht]; exact hP9), va_K.moved hW.alike hK, hD9⟩, hS.F ht⟩) hS.2.2 dX4_shrink_9

set_option maxHeartbeats 4000000 in
set_option maxRecDepth 100000 in
theorem c_X4_join (l : Launch) (dC : Nat → ClassId) (dI : Nat → Nat → Nat) (cI cZ cJ : ClassId) (b : Nat → Nat) (tw : Int32) (nk : Nat) (pa : Nat → Int32) (nc : Nat) (fo : Nat → Int32) (th : Nat → Int32) (tg : Nat → Int32) (nt : Nat) (tb : Nat → Int32) (te : Nat → Int32) (tk : Nat → Int32) (tt : Nat → Int32) (ex : Int32) (tc : Int32) (es : Int32) (wy : Int64) (ab : Nat → Int32) (re : Nat → Int32) (go : Nat → Int32) (be : Nat → Int32) (T : Nat → Nat → Nat) (up : Nat → Nat → Bool) (sz : Nat) (hg : g4 nk ab up nt tb te tk tt T) (hc : okC nk nc fo th tg) : Met l yX4_join wsX4_join ({ frames := 7, cells := 0, slots := 0, locals := 158 } : Room) (va_Pc [.ref (b 0)] (zWr (dC, dI) [(cI, .int), (cZ, .boolean), (cJ, .long)] (w4 b cI cZ tw nk pa nc fo th tg nt tb te tk tt ex tc es wy ab re go be) sz)) (va_Qi (fun (r : Int32) (u : (Nat → Int32) × (Nat → Int32) × Nat × (Nat → Int32) × (Nat → Int32) × (Nat → Int32) × (Nat → Int32) × (Nat → Int32)) => match u with | (re9, go9, nt9, tb9, te9, tk9, tt9, be9) => r = nI ((jR nk nc fo th tg up (T, nt)).2) ∧ nt9 = (jR nk nc fo th tg up (T, nt)).1.2 ∧ g4 nk ab up nt9 tb9 te9 tk9 tt9 (jR nk nc fo th tg up (T, nt)).1.1) (fun u t => match u with | (re9, go9, nt9, tb9, te9, tk9, tt9, be9) => zWo (dC, dI) [(cI, .int), (cZ, .boolean), (cJ, .long)] (w4 b cI cZ 0 nk pa nc fo th tg nt9 tb9 te9 tk9 tt9 ex tc es wy ab re9 go9 be9) (va_A (w4 b cI cZ tw nk pa nc fo th tg nt tb te tk tt ex tc es wy ab re go be) sz) t) (va_A (w4 b cI cZ tw nk pa nc fo th tg nt tb te tk tt ex tc es wy ab re go be) sz)) 0 0 (va_A (w4 b cI cZ tw nk pa nc fo th tg nt tb te tk tt ex tc es wy ab re go be) sz) := by
  refine Met.ofW (cc := cX4_join) (maxL := 1) (ret := (some .int)) (by decide) rfl ?_
  intro p e s m args below meth c s₁ B hml hv
  obtain ⟨hav, hsz, ⟨hP, hK, hn⟩, hD0⟩ := hv
  have hx := B.exec
  have hb := B.bytes
  have hr := B.returns
  have hts := atoms_spec (ws := wsX4_join) B.pre
  have hown : s.vm.findClass RX4 = some m.cls := findClass_of_methodNamed B.named
  have hlocks := B.notSynchronized
  subst hsz
  have hD := hD0.self (sz := s.heap.size)
  generalize hAe : (va_A (w4 b cI cZ tw nk pa nc fo th tg nt tb te tk tt ex tc es wy ab re go be) s.heap.size) = A at hD ⊢
  have hA : ∀ q : Nat, s.heap.size ≤ q → A q := fun q h => by rw [← hAe]; exact Or.inr h
  have hS : va_S A s.heap s.heap [] := va_S.rf
  generalize hQ : MQ below (va_Qi (fun (r : Int32) (u : (Nat → Int32) × (Nat → Int32) × Nat × (Nat → Int32) × (Nat → Int32) × (Nat → Int32) × (Nat → Int32) × (Nat → Int32)) => match u with | (re9, go9, nt9, tb9, te9, tk9, tt9, be9) => r = nI ((jR nk nc fo th tg up (T, nt)).2) ∧ nt9 = (jR nk nc fo th tg up (T, nt)).1.2 ∧ g4 nk ab up nt9 tb9 te9 tk9 tt9 (jR nk nc fo th tg up (T, nt)).1.1) (fun u t => match u with | (re9, go9, nt9, tb9, te9, tk9, tt9, be9) => zWo (dC, dI) [(cI, .int), (cZ, .boolean), (cJ, .long)] (w4 b cI cZ 0 nk pa nc fo th tg nt9 tb9 te9 tk9 tt9 ex tc es wy ab re9 go9 be9) A t) A) args s 0 0 A = Q
  refine W.eq (g2 := entryFrame m ([.ref (b 0)] : List Value).toArray 1) (by rw [hav]) ?_
  have hl := lv_entry ([.ref (b 0)]) (n := 1) (Nat.le_of_ble_eq_true rfl)
  rw [lg_entry_eq]
  generalize (lg_sl ([.ref (b 0)]) ++ List.replicate (1 - (lg_sl ([.ref (b 0)])).length) Slot.unset).toArray = ls at hl ⊢
  have hl : lv_has ls 1 [(0, .ref (b 0))] := hl
  obtain ⟨H, hH⟩ : ∃ H, H = s.heap := ⟨_, rfl⟩
  obtain ⟨locs, hlo⟩ : ∃ q : List Loc, q = [] := ⟨_, rfl⟩
  have hP : va_P (dC, dI) vwCl (w4 b cI cZ tw nk pa nc fo th tg nt tb te tk tt ex tc es wy ab re go be) H := by rw [hH]; exact hP
  have hS : va_S A s.heap H locs := by rw [hH, hlo]; exact hS
  refine zz_hl hH hlo ?_
  refine lv_aload_n hx hb dX4_join_0 rfl (lv_at hl 0 rfl) ?_
  refine lv_iconst (v := 0) hx hb dX4_join_1 (by decide) ?_
  refine va_put (D := (dC, dI)) (ci := 4) (v := .int 0) (ty := .int) (C := RX4) (T := TX4) (N := 20) hx hb hts (by decide +kernel) tyX4 tyX4_ok nmX4 hown hK hP hD hS 0 rfl rfl 0 (by decide) (hts (.fieldLink RX4 54 "HandlerOptimizerModel" "thrown" "I") (by decide +kernel)) (fun _ h9 => h9) rfl (by decide +kernel) rfl rfl (Nat.le_of_ble_eq_true rfl) dX4_join_2 (fun H locs hP hD hS => ?_)
  have hP : va_P (dC, dI) vwCl (w4 b cI cZ 0 nk pa nc fo th tg nt tb te tk tt ex tc es wy ab re go be) H := hP
  have hD : va_D A (w4 b cI cZ 0 nk pa nc fo th tg nt tb te tk tt ex tc es wy ab re go be) := hD
  refine lv_aload_n hx hb dX4_join_5 rfl (lv_at hl 0 rfl) ?_
  have hDc := hD
  have hFc := va_free (wc := w4 b cI cZ 0 nk pa nc fo th tg nt tb te tk tt ex tc es wy ab re go be) hD hS hA [0, 1, 2, 3, 4, 5, 6, 7, 8, 9, 10, 11, 12] rfl
  refine va_calli (va_runV (As := []) (rest := []) ⟨hx, hb, hml, hown, hts⟩ (c_X4_joinAll l dC dI cI cZ cJ b 0 nk pa nc fo th tg nt tb te tk tt ex tc es wy ab re go be T up H.size (by first | assumption | omega) (by first | assumption | omega)) (cwV 0 hts gX4_join_X4_joinAll rfl rfl rfl (by decide +kernel) ⟨Nat.le_of_ble_eq_true rfl, Nat.le_of_ble_eq_true rfl⟩) ⟨zWr_blind, va_recv hK hP (ci := 4) (q0 := 0) rfl rfl, zWr_at hP hK hn (hDc.weaken (fun _ _ _ _ => trivial))⟩ rfl rfl hl.1 rfl (lv_room (Nat.le_of_ble_eq_true rfl)) dX4_join_6 ⟨Nat.le_of_ble_eq_true rfl, Nat.le_of_ble_eq_true rfl⟩) hS (fun q _ h => hFc q h) hFc (fun r_1 u_9 t H1 locs ht hvm hw hB hz1 hk1 hS => ?_)
  obtain ⟨re9_1, go9_2, nt9_3, tb9_4, te9_5, tk9_6, tt9_7, be9_8⟩ := u_9
  dsimp only at hw hB
  obtain ⟨hP1, -, hD1⟩ := hB
  rw [ht] at hP1
  obtain ⟨hP, hD⟩ := va_join (wr := []) (w1 := w4 b cI cZ 0 nk pa nc fo th tg nt9_3 tb9_4 te9_5 tk9_6 tt9_7 ex tc es wy ab re9_1 go9_2 be9_8) hP hD [0, 1, 2, 3, 4, 5, 6, 7, 8, 9, 10, 11, 12] [] rfl rfl (by decide) (by decide) hk1 hFc hP1 hD1
  generalize H1 = H at hP hS ⊢
  have hP : va_P (dC, dI) vwCl (w4 b cI cZ 0 nk pa nc fo th tg nt9_3 tb9_4 te9_5 tk9_6 tt9_7 ex tc es wy ab re9_1 go9_2 be9_8) H := hP
  have hD : va_D A (w4 b cI cZ 0 nk pa nc fo th tg nt9_3 tb9_4 te9_5 tk9_6 tt9_7 ex tc es wy ab re9_1 go9_2 be9_8) := hD
  obtain ⟨hw0, hw⟩ := hw
  subst hw0
  rw [← hQ]
  have hP9 := hP
  have hD9 := hD
  exact W.iret (v := nI ((jR nk nc fo th tg up (T, nt)).2)) hx hb hr (fun t ht hW => ⟨⟨nI ((jR nk nc fo th tg up (T, nt)).2), (re9_1, go9_2, nt9_3, tb9_4, te9_5, tk9_6, tt9_7, be9_8), rfl, (⟨rfl, hw⟩), (by rw [ht]; exact hP9), va_K.moved hW.alike hK, hD9⟩, hS.F ht⟩) hS.2.2 dX4_join_9

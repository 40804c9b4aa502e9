set_option maxHeartbeats 4000000 in
set_option maxRecDepth 100000 in
theorem c_X4_sweep (l : Launch) (dC : Nat → ClassId) (dI : Nat → Nat → Nat) (cI cZ cJ : ClassId) (b : Nat → Nat) (tw : Int32) (nk : Nat) (pa : Nat → Int32) (nc : Nat) (fo : Nat → Int32) (th : Nat → Int32) (tg : Nat → Int32) (nt : Nat) (tb : Nat → Int32) (te : Nat → Int32) (tk : Nat → Int32) (tt : Nat → Int32) (ex : Int32) (tc : Int32) (es : Int32) (wy : Int64) (ab : Nat → Int32) (re : Nat → Int32) (go : Nat → Int32) (be : Nat → Int32) (T : Nat → Nat → Nat) (up : Nat → Nat → Bool) (sz : Nat) (hg : g4 nk ab up nt tb te tk tt T) (hc : okC nk nc fo th tg) : Met l yX4_sweep wsX4_sweep ({ frames := 4, cells := 1, slots := 49, locals := 90 } : Room) (va_Pc [.ref (b 0)] (zWr (dC, dI) [(cI, .int), (cZ, .boolean), (cJ, .long)] (w4 b cI cZ tw nk pa nc fo th tg nt tb te tk tt ex tc es wy ab re go be) sz)) (va_Qi (fun (r : Int32) (u : (Nat → Int32) × Nat × (Nat → Int32) × (Nat → Int32) × (Nat → Int32) × (Nat → Int32) × Nat × (Nat → Int32) × (Nat → Int32) × (Nat → Int32)) => match u with | (re9, nt9, tb9, te9, tk9, tt9, nc9, fo9, th9, tg9) => r = nI (nc - (swC (RB nk nc fo th tg T nt up) (rmN (RB nk nc fo th tg T nt up) nc) nc fo th tg).2.2.2) ∧ (fo9, th9, tg9, nc9) = swC (RB nk nc fo th tg T nt up) (rmN (RB nk nc fo th tg T nt up) nc) nc fo th tg ∧ okC nk nc9 fo9 th9 tg9 ∧ nt9 = (swT (rmN (RB nk nc fo th tg T nt up) nc) T nt).2 ∧ g4 nk ab up nt9 tb9 te9 tk9 tt9 (swT (rmN (RB nk nc fo th tg T nt up) nc) T nt).1) (fun u t => match u with | (re9, nt9, tb9, te9, tk9, tt9, nc9, fo9, th9, tg9) => zWo (dC, dI) [(cI, .int), (cZ, .boolean), (cJ, .long)] (w4 b cI cZ 0 nk pa nc9 fo9 th9 tg9 nt9 tb9 te9 tk9 tt9 ex tc es wy ab re9 go be) (va_A (w4 b cI cZ tw nk pa nc fo th tg nt tb te tk tt ex tc es wy ab re go be) sz) t) (va_A (w4 b cI cZ tw nk pa nc fo th tg nt tb te tk tt ex tc es wy ab re go be) sz)) 1 49 (va_A (w4 b cI cZ tw nk pa nc fo th tg nt tb te tk tt ex tc es wy ab re go be) sz) := by
  refine Met.ofW (cc := cX4_sweep) (maxL := 5) (ret := (some .int)) (by decide) rfl ?_
  intro p e s m args below meth c s₁ B hml hv
  obtain ⟨hav, hsz, ⟨hP, hK, hn⟩, hD0⟩ := hv
  have hx := B.exec
  have hb := B.bytes
  have hr := B.returns
  have hts := atoms_spec (ws := wsX4_sweep) B.pre
  have hown : s.vm.findClass RX4 = some m.cls := findClass_of_methodNamed B.named
  have hlocks := B.notSynchronized
  subst hsz
  have hD := hD0.self (sz := s.heap.size)
  generalize hAe : (va_A (w4 b cI cZ tw nk pa nc fo th tg nt tb te tk tt ex tc es wy ab re go be) s.heap.size) = A at hD ⊢
  have hA : ∀ q : Nat, s.heap.size ≤ q → A q := fun q h => by rw [← hAe]; exact Or.inr h
  have hS : va_S A s.heap s.heap [] := va_S.rf
  generalize hQ : MQ below (va_Qi (fun (r : Int32) (u : (Nat → Int32) × Nat × (Nat → Int32) × (Nat → Int32) × (Nat → Int32) × (Nat → Int32) × Nat × (Nat → Int32) × (Nat → Int32) × (Nat → Int32)) => match u with | (re9, nt9, tb9, te9, tk9, tt9, nc9, fo9, th9, tg9) => r = nI (nc - (swC (RB nk nc fo th tg T nt up) (rmN (RB nk nc fo th tg T nt up) nc) nc fo th tg).2.2.2) ∧ (fo9, th9, tg9, nc9) = swC (RB nk nc fo th tg T nt up) (rmN (RB nk nc fo th tg T nt up) nc) nc fo th tg ∧ okC nk nc9 fo9 th9 tg9 ∧ nt9 = (swT (rmN (RB nk nc fo th tg T nt up) nc) T nt).2 ∧ g4 nk ab up nt9 tb9 te9 tk9 tt9 (swT (rmN (RB nk nc fo th tg T nt up) nc) T nt).1) (fun u t => match u with | (re9, nt9, tb9, te9, tk9, tt9, nc9, fo9, th9, tg9) => zWo (dC, dI) [(cI, .int), (cZ, .boolean), (cJ, .long)] (w4 b cI cZ 0 nk pa nc9 fo9 th9 tg9 nt9 tb9 te9 tk9 tt9 ex tc es wy ab re9 go be) A t) A) args s 1 49 A = Q
  refine W.eq (g2 := entryFrame m ([.ref (b 0)] : List Value).toArray 5) (by rw [hav]) ?_
  have hl := lv_entry ([.ref (b 0)]) (n := 5) (Nat.le_of_ble_eq_true rfl)
  rw [lg_entry_eq]
  generalize (lg_sl ([.ref (b 0)]) ++ List.replicate (5 - (lg_sl ([.ref (b 0)])).length) Slot.unset).toArray = ls at hl ⊢
  have hl : lv_has ls 5 [(0, .ref (b 0))] := hl
  obtain ⟨H, hH⟩ : ∃ H, H = s.heap := ⟨_, rfl⟩
  obtain ⟨locs, hlo⟩ : ∃ q : List Loc, q = [] := ⟨_, rfl⟩
  have hP : va_P (dC, dI) vwCl (w4 b cI cZ tw nk pa nc fo th tg nt tb te tk tt ex tc es wy ab re go be) H := by rw [hH]; exact hP
  have hS : va_S A s.heap H locs := by rw [hH, hlo]; exact hS
  refine zz_hl hH hlo ?_
  obtain ⟨hk01, hk8, hnt, hT, hO, hF, hU⟩ := id hg
  obtain ⟨hnc, hC⟩ := id hc
  refine lv_aload_n hx hb dX4_sweep_0 rfl (lv_at hl 0 rfl) ?_
  refine lv_iconst (v := 0) hx hb dX4_sweep_1 (by decide) ?_
  refine va_put (D := (dC, dI)) (ci := 4) (v := .int 0) (ty := .int) (C := RX4) (T := TX4) (N := 20) hx hb hts (by decide +kernel) tyX4 tyX4_ok nmX4 hown hK hP hD hS 0 rfl rfl 0 (by decide) (hts (.fieldLink RX4 54 "HandlerOptimizerModel" "thrown" "I") (by decide +kernel)) (fun _ h9 => h9) rfl (by decide +kernel) rfl rfl (Nat.le_of_ble_eq_true rfl) dX4_sweep_2 (fun H locs hP hD hS => ?_)
  have hP : va_P (dC, dI) vwCl (w4 b cI cZ 0 nk pa nc fo th tg nt tb te tk tt ex tc es wy ab re go be) H := hP
  have hD : va_D A (w4 b cI cZ 0 nk pa nc fo th tg nt tb te tk tt ex tc es wy ab re go be) := hD
  refine lv_aload_n hx hb dX4_sweep_5 rfl (lv_at hl 0 rfl) ?_
  have hDc := hD
  have hFc := va_free (wc := w4 b cI cZ 0 nk pa nc fo th tg nt tb te tk tt ex tc es wy ab re go be) hD hS hA [0, 1, 2, 3, 4, 5, 6, 7, 8, 9, 10, 11, 12] rfl
  refine va_callv (va_runV (As := []) (rest := []) ⟨hx, hb, hml, hown, hts⟩ (c_X4_reach l dC dI cI cZ cJ b 0 nk pa nc fo th tg nt tb te tk tt ex tc es wy ab re go be T up H.size (by first | assumption | omega) (by first | assumption | omega)) (cwV 0 hts gX4_sweep_X4_reach rfl rfl rfl (by decide +kernel) ⟨Nat.le_of_ble_eq_true rfl, Nat.le_of_ble_eq_true rfl⟩) ⟨zWr_blind, va_recv hK hP (ci := 4) (q0 := 0) rfl rfl, zWr_at hP hK hn (hDc.weaken (fun _ _ _ _ => trivial))⟩ rfl rfl hl.1 rfl (lv_room (Nat.le_of_ble_eq_true rfl)) dX4_sweep_6 ⟨Nat.le_of_ble_eq_true rfl, Nat.le_of_ble_eq_true rfl⟩) hS (fun q _ h => hFc q h) hFc (fun u_9 t H1 locs ht hvm hw hB hz1 hk1 hS => ?_)
  obtain ⟨re_n, rfl⟩ : ∃ z, z = u_9 := ⟨_, rfl⟩
  obtain ⟨hP1, -, hD1⟩ := hB
  rw [ht] at hP1
  obtain ⟨hP, hD⟩ := va_join (wr := []) (w1 := w4 b cI cZ 0 nk pa nc fo th tg nt tb te tk tt ex tc es wy ab re_n go be) hP hD [0, 1, 2, 3, 4, 5, 6, 7, 8, 9, 10, 11, 12] [] rfl rfl (by decide) (by decide) hk1 hFc hP1 hD1
  generalize H1 = H at hP hS ⊢
  have hP : va_P (dC, dI) vwCl (w4 b cI cZ 0 nk pa nc fo th tg nt tb te tk tt ex tc es wy ab re_n go be) H := hP
  have hD : va_D A (w4 b cI cZ 0 nk pa nc fo th tg nt tb te tk tt ex tc es wy ab re_n go be) := hD
  have hre := hw
  refine lv_bipush (v := 49) hx hb dX4_sweep_9 (by decide) ?_
  refine va_newa (atype := .int) (ty := .int) (a0 := (49, .inl (fun _ => 0))) hx hb (hts (.arrayClass .int) (by decide +kernel)) rfl hK hP hD hS hA (n := 49) (N' := 49) (fun _ => rfl) (by decide) (by decide) (by decide) (Nat.le_of_ble_eq_true rfl) (Nat.le_of_ble_eq_true rfl) dX4_sweep_11 (fun q_11 cA H hK1 hP hD hS => ?_)
  rw [zz_cI hK1] at hP hD
  refine W.widen (k := 1) (n := 49) (by omega) (by omega) ?_
  have hP : va_P (dC, dI) vwCl (w4 b cI cZ 0 nk pa nc fo th tg nt tb te tk tt ex tc es wy ab re_n go be ++ [(q_11, .inl (cI, 49, .inl (fun _ => 0)))]) H := hP
  have hD : va_D A (w4 b cI cZ 0 nk pa nc fo th tg nt tb te tk tt ex tc es wy ab re_n go be ++ [(q_11, .inl (cI, 49, .inl (fun _ => 0)))]) := hD
  refine lv_astore_n (lv' := [(1, .ref q_11), (0, .ref (b 0))]) hx hb dX4_sweep_13 rfl hl (by decide) rfl (fun ls hl => ?_)
  refine lv_iconst (v := 0) hx hb dX4_sweep_14 (by decide) ?_
  refine lv_istore_n (lv' := [(2, .int 0), (1, .ref q_11), (0, .ref (b 0))]) hx hb dX4_sweep_15 rfl hl (by decide) rfl (fun ls hl => ?_)
  have J_16 : ∀ (n9 : Nat) (y : Nat) (ga : Nat → Int32) (H : Heap) (locs : List Loc) (ls : Array Slot), (y ≤ 48) → (∀ n, n ≤ y → ga n = nI (rmN (RB nk nc fo th tg T nt up) nc n)) → 48 - y < n9 → va_P (dC, dI) vwCl (w4 b cI cZ 0 nk pa nc fo th tg nt tb te tk tt ex tc es wy ab re_n go be ++ [(q_11, .inl (cI, 49, .inl ga))]) H → va_D A (w4 b cI cZ 0 nk pa nc fo th tg nt tb te tk tt ex tc es wy ab re_n go be ++ [(q_11, .inl (cI, 49, .inl ga))]) → va_S A s.heap H locs → lv_has ls 5 [(0, .ref (b 0)), (1, .ref q_11), (2, .int (nI y))] → W p l e (headSpec wsX4_sweep ({ frames := 4, cells := 1, slots := 49, locals := 90 } : Room)).room s m args below meth c H locs 1 49 Q (F0 m 16 ls []) := by
    intro n9
    induction n9 with
    | zero => intro y ga H locs ls hy ha hmu; exact absurd hmu (Nat.not_lt_zero _)
    | succ n9 ih_16 =>
      intro y ga H locs ls hy ha hmu hP hD hS hl
      refine lv_iload_n hx hb dX4_sweep_16 rfl (lv_at hl 2 rfl) ?_
      refine lv_bipush (v := 48) hx hb dX4_sweep_17 (by decide) ?_
      refine lv_icmp_ge (tgt := 59) hx hb dX4_sweep_19 (by decide) (fun c_3 => ?_) (fun c_3 => ?_)
      · skip
        have c_3 := (zz_get (a := y) (b := 48) (by omega) (by omega)).mp c_3
        refine lv_iconst (v := 0) hx hb dX4_sweep_59 (by decide) ?_
        refine lv_istore_n (lv' := [(2, .int 0), (0, .ref (b 0)), (1, .ref q_11)]) hx hb dX4_sweep_60 rfl hl (by decide) rfl (fun ls hl => ?_)
        refine lv_iconst (v := 0) hx hb dX4_sweep_61 (by decide) ?_
        refine lv_istore_n (lv' := [(3, .int 0), (2, .int 0), (0, .ref (b 0)), (1, .ref q_11)]) hx hb dX4_sweep_62 rfl hl (by decide) rfl (fun ls hl => ?_)
        have J_63 : ∀ (n9 : Nat) (y2 : Nat) (n : Nat) (gf : Nat → Int32) (gth : Nat → Int32) (gg : Nat → Int32) (H : Heap) (locs : List Loc) (ls : Array Slot), (y2 ≤ nc) → (swI (RB nk nc fo th tg T nt up) (rmN (RB nk nc fo th tg T nt up) nc) nc y2 fo th tg gf gth gg n) → ((gf, gth, gg, n) = it (swG (RB nk nc fo th tg T nt up) (rmN (RB nk nc fo th tg T nt up) nc)) y2 (fo, th, tg, 0)) → nc - y2 < n9 → va_P (dC, dI) vwCl (w4 b cI cZ 0 nk pa nc gf gth gg nt tb te tk tt ex tc es wy ab re_n go be ++ [(q_11, .inl (cI, 49, .inl ga))]) H → va_D A (w4 b cI cZ 0 nk pa nc gf gth gg nt tb te tk tt ex tc es wy ab re_n go be ++ [(q_11, .inl (cI, 49, .inl ga))]) → va_S A s.heap H locs → lv_has ls 5 [(0, .ref (b 0)), (1, .ref q_11), (2, .int (nI n)), (3, .int (nI y2))] → W p l e (headSpec wsX4_sweep ({ frames := 4, cells := 1, slots := 49, locals := 90 } : Room)).room s m args below meth c H locs 1 49 Q (F0 m 63 ls []) := by
          intro n9
          induction n9 with
          | zero => intro y2 n gf gth gg H locs ls hy2 hs hq hmu; exact absurd hmu (Nat.not_lt_zero _)
          | succ n9 ih_63 =>
            intro y2 n gf gth gg H locs ls hy2 hs hq hmu hP hD hS hl
            refine lv_iload_n hx hb dX4_sweep_63 rfl (lv_at hl 3 rfl) ?_
            refine lv_aload_n hx hb dX4_sweep_64 rfl (lv_at hl 0 rfl) ?_
            refine va_get (D := (dC, dI)) (ci := 4) (v := .int (nI nc)) (C := RX4) (T := TX4) (N := 20) hx hb hts (by decide +kernel) hown hK hP 0 rfl rfl 3 (by decide) (hts (.fieldLink RX4 61 "HandlerOptimizerModel" "size" "I") (by decide +kernel)) (fun _ h9 => h9) rfl dX4_sweep_65 ?_
            refine lv_icmp_ge (tgt := 151) hx hb dX4_sweep_68 (by decide) (fun c_4 => ?_) (fun c_4 => ?_)
            · skip
              have c_4 := (zz_get (a := y2) (b := nc) (by omega) (by omega)).mp c_4
              refine lv_aload_n hx hb dX4_sweep_151 rfl (lv_at hl 0 rfl) ?_
              refine va_get (D := (dC, dI)) (ci := 4) (v := .int (nI nc)) (C := RX4) (T := TX4) (N := 20) hx hb hts (by decide +kernel) hown hK hP 0 rfl rfl 3 (by decide) (hts (.fieldLink RX4 61 "HandlerOptimizerModel" "size" "I") (by decide +kernel)) (fun _ h9 => h9) rfl dX4_sweep_152 ?_
              refine lv_iload_n hx hb dX4_sweep_155 rfl (lv_at hl 2 rfl) ?_
              refine lv_isub hx hb dX4_sweep_156 ?_
              refine zz_top (y := nI (nc - n)) (zz_subn (by have := hs.1; omega)) ?_
              refine lv_istore_n (lv' := [(3, .int (nI (nc - n))), (0, .ref (b 0)), (1, .ref q_11), (2, .int (nI n))]) hx hb dX4_sweep_157 rfl hl (by decide) rfl (fun ls hl => ?_)
              refine lv_aload_n hx hb dX4_sweep_158 rfl (lv_at hl 1 rfl) ?_
              refine lv_iload_n hx hb dX4_sweep_159 rfl (lv_at hl 3 rfl) ?_
              refine va_put (D := (dC, dI)) (ci := 4) (v := .int (nI n)) (ty := .int) (C := RX4) (T := TX4) (N := 20) hx hb hts (by decide +kernel) tyX4 tyX4_ok nmX4 hown hK hP hD hS 0 rfl rfl 3 (by decide) (hts (.fieldLink RX4 61 "HandlerOptimizerModel" "size" "I") (by decide +kernel)) (fun _ h9 => h9) rfl (by decide +kernel) rfl rfl (Nat.le_of_ble_eq_true rfl) dX4_sweep_160 (fun H locs hP hD hS => ?_)
              have hP : va_P (dC, dI) vwCl (w4 b cI cZ 0 nk pa n gf gth gg nt tb te tk tt ex tc es wy ab re_n go be ++ [(q_11, .inl (cI, 49, .inl ga))]) H := hP
              have hD : va_D A (w4 b cI cZ 0 nk pa n gf gth gg nt tb te tk tt ex tc es wy ab re_n go be ++ [(q_11, .inl (cI, 49, .inl ga))]) := hD
              refine lv_iconst (v := 0) hx hb dX4_sweep_163 (by decide) ?_
              refine lv_istore (lv' := [(4, .int 0), (3, .int (nI (nc - n))), (0, .ref (b 0)), (1, .ref q_11), (2, .int (nI n))]) hx hb dX4_sweep_164 hl (by decide) rfl (fun ls hl => ?_)
              have J_166 : ∀ (n9 : Nat) (y4 : Nat) (gb : Nat → Int32) (ge : Nat → Int32) (gk : Nat → Int32) (gt : Nat → Int32) (H : Heap) (locs : List Loc) (ls : Array Slot), (y4 ≤ nt) → (rT nt gb ge gk gt (mS (rnT (rmN (RB nk nc fo th tg T nt up) nc) T) T y4)) → nt - y4 < n9 → va_P (dC, dI) vwCl (w4 b cI cZ 0 nk pa n gf gth gg nt gb ge gk gt ex tc es wy ab re_n go be ++ [(q_11, .inl (cI, 49, .inl ga))]) H → va_D A (w4 b cI cZ 0 nk pa n gf gth gg nt gb ge gk gt ex tc es wy ab re_n go be ++ [(q_11, .inl (cI, 49, .inl ga))]) → va_S A s.heap H locs → lv_has ls 5 [(0, .ref (b 0)), (1, .ref q_11), (3, .int (nI (nc - n))), (4, .int (nI y4))] → W p l e (headSpec wsX4_sweep ({ frames := 4, cells := 1, slots := 49, locals := 90 } : Room)).room s m args below meth c H locs 1 49 Q (F0 m 166 ls []) := by
                intro n9
                induction n9 with
                | zero => intro y4 gb ge gk gt H locs ls hy4 hr4 hmu; exact absurd hmu (Nat.not_lt_zero _)
                | succ n9 ih_166 =>
                  intro y4 gb ge gk gt H locs ls hy4 hr4 hmu hP hD hS hl
                  refine lv_iload hx hb dX4_sweep_166 (lv_at hl 3 rfl) ?_
                  refine lv_aload_n hx hb dX4_sweep_168 rfl (lv_at hl 0 rfl) ?_
                  refine va_get (D := (dC, dI)) (ci := 4) (v := .int (nI nt)) (C := RX4) (T := TX4) (N := 20) hx hb hts (by decide +kernel) hown hK hP 0 rfl rfl 7 (by decide) (hts (.fieldLink RX4 64 "HandlerOptimizerModel" "entries" "I") (by decide +kernel)) (fun _ h9 => h9) rfl dX4_sweep_169 ?_
                  refine lv_icmp_ge (tgt := 245) hx hb dX4_sweep_172 (by decide) (fun c_5 => ?_) (fun c_5 => ?_)
                  · skip
                    have c_5 := (zz_get (a := y4) (b := nt) (by omega) (by omega)).mp c_5
                    refine lv_aload_n hx hb dX4_sweep_245 rfl (lv_at hl 0 rfl) ?_
                    refine va_get (D := (dC, dI)) (ci := 4) (v := .int (nI nt)) (C := RX4) (T := TX4) (N := 20) hx hb hts (by decide +kernel) hown hK hP 0 rfl rfl 7 (by decide) (hts (.fieldLink RX4 64 "HandlerOptimizerModel" "entries" "I") (by decide +kernel)) (fun _ h9 => h9) rfl dX4_sweep_246 ?_
                    refine lv_iconst (v := 1) hx hb dX4_sweep_249 (by decide) ?_
                    refine lv_isub hx hb dX4_sweep_250 ?_
                    refine lv_istore (lv' := [(4, .int ((nI nt) - 1)), (0, .ref (b 0)), (1, .ref q_11), (3, .int (nI (nc - n)))]) hx hb dX4_sweep_251 hl (by decide) rfl (fun ls hl => ?_)
                    have J_253 : ∀ (n9 : Nat) (y5 : Nat) (n5 : Nat) (gb5 : Nat → Int32) (ge5 : Nat → Int32) (gk5 : Nat → Int32) (gt5 : Nat → Int32) (D : Nat → Nat → Nat) (H : Heap) (locs : List Loc) (ls : Array Slot), (y5 ≤ n5) → (n5 ≤ nt) → (rT n5 gb5 ge5 gk5 gt5 D) → (okT nk n5 D) → (∀ e, e < y5 → ∀ f, D f e = rnT (rmN (RB nk nc fo th tg T nt up) nc) T f e) → (swT (rmN (RB nk nc fo th tg T nt up) nc) T nt = dlp (fun e => decide (rnT (rmN (RB nk nc fo th tg T nt up) nc) T 0 e < rnT (rmN (RB nk nc fo th tg T nt up) nc) T 1 e)) y5 (D, n5)) → y5 < n9 → va_P (dC, dI) vwCl (w4 b cI cZ 0 nk pa n gf gth gg n5 gb5 ge5 gk5 gt5 ex tc es wy ab re_n go be ++ [(q_11, .inl (cI, 49, .inl ga))]) H → va_D A (w4 b cI cZ 0 nk pa n gf gth gg n5 gb5 ge5 gk5 gt5 ex tc es wy ab re_n go be ++ [(q_11, .inl (cI, 49, .inl ga))]) → va_S A s.heap H locs → lv_has ls 5 [(0, .ref (b 0)), (1, .ref q_11), (3, .int (nI (nc - n))), (4, .int (nI y5 - 1))] → W p l e (headSpec wsX4_sweep ({ frames := 4, cells := 1, slots := 49, locals := 90 } : Room)).room s m args below meth c H locs 1 49 Q (F0 m 253 ls []) := by
                      intro n9
                      induction n9 with
                      | zero => intro y5 n5 gb5 ge5 gk5 gt5 D H locs ls hy5 hn5 hrt ho hd hq5 hmu; exact absurd hmu (Nat.not_lt_zero _)
                      | succ n9 ih_253 =>
                        intro y5 n5 gb5 ge5 gk5 gt5 D H locs ls hy5 hn5 hrt ho hd hq5 hmu hP hD hS hl
                        refine lv_iload hx hb dX4_sweep_253 (lv_at hl 3 rfl) ?_
                        refine lv_if_lt (tgt := 287) hx hb dX4_sweep_255 (by decide) (fun c_6 => ?_) (fun c_6 => ?_)
                        · skip
                          have c1 := zz_cdt (by omega) c_6
                          subst c1
                          have hq7 : swT (rmN (RB nk nc fo th tg T nt up) nc) T nt = (D, n5) := hq5
                          have e8 : y2 = nc := by omega
                          have hs7 := hs
                          rw [e8] at hs7 hq
                          have hq6 : (gf, gth, gg, n) = swC (RB nk nc fo th tg T nt up) (rmN (RB nk nc fo th tg T nt up) nc) nc fo th tg := hq
                          refine lv_iload_n hx hb dX4_sweep_287 rfl (lv_at hl 2 rfl) ?_
                          rw [← hQ]
                          have hP9 := hP.sub (ws' := w4 b cI cZ 0 nk pa n gf gth gg n5 gb5 ge5 gk5 gt5 ex tc es wy ab re_n go be) [0, 1, 2, 3, 4, 5, 6, 7, 8, 9, 10, 11, 12] rfl
                          have hD9 := hD.sub (ws' := w4 b cI cZ 0 nk pa n gf gth gg n5 gb5 ge5 gk5 gt5 ex tc es wy ab re_n go be) [0, 1, 2, 3, 4, 5, 6, 7, 8, 9, 10, 11, 12] (by decide) rfl
                          exact W.iret (v := nI (nc - n)) hx hb hr (fun t ht hW => ⟨⟨nI (nc - n), (re_n, n5, gb5, ge5, gk5, gt5, n, gf, gth, gg), rfl, (⟨by rw [← hq6], hq6, okC_sw hc hs7, by rw [hq7], by rw [hq7]; exact ⟨hk01, hk8, by omega, hrt, ho, hF, hU⟩⟩), (by rw [ht]; exact hP9), va_K.moved hW.alike hK, hD9⟩, hS.F ht⟩) hS.2.2 dX4_sweep_288
                        · skip
                          have c1 := zz_cdf c_6
                          obtain ⟨z, rfl⟩ : ∃ z, y5 = z + 1 := ⟨y5 - 1, by omega⟩
                          rw [nI_pred] at hl
                          obtain ⟨p0, p1, p2, p3⟩ := okT_rn (w := (rmN (RB nk nc fo th tg T nt up) nc)) hO z (by omega)
                          refine lv_aload_n hx hb dX4_sweep_258 rfl (lv_at hl 0 rfl) ?_
                          refine va_get (D := (dC, dI)) (ci := 4) (v := .ref (b 5)) (C := RX4) (T := TX4) (N := 20) hx hb hts (by decide +kernel) hown hK hP 0 rfl rfl 8 (by decide) (hts (.fieldLink RX4 26 "HandlerOptimizerModel" "froms" "[I") (by decide +kernel)) (fun _ h9 => h9) rfl dX4_sweep_259 ?_
                          refine lv_iload hx hb dX4_sweep_262 (lv_at hl 3 rfl) ?_
                          refine va_iald hx hb hK hP 5 0 rfl rfl (vp_in_nI (n := z) (by omega) (by decide)) dX4_sweep_264 ?_
                          refine zz_top (y := gb5 z) (congrArg _ (nI_clamp (by omega))) ?_
                          refine zz_top (y := nI (rnT (rmN (RB nk nc fo th tg T nt up) nc) T 0 z)) (by rw [(hrt z (by omega)).1, hd z (by omega)]) ?_
                          refine lv_aload_n hx hb dX4_sweep_265 rfl (lv_at hl 0 rfl) ?_
                          refine va_get (D := (dC, dI)) (ci := 4) (v := .ref (b 6)) (C := RX4) (T := TX4) (N := 20) hx hb hts (by decide +kernel) hown hK hP 0 rfl rfl 9 (by decide) (hts (.fieldLink RX4 29 "HandlerOptimizerModel" "tos" "[I") (by decide +kernel)) (fun _ h9 => h9) rfl dX4_sweep_266 ?_
                          refine lv_iload hx hb dX4_sweep_269 (lv_at hl 3 rfl) ?_
                          refine va_iald hx hb hK hP 6 0 rfl rfl (vp_in_nI (n := z) (by omega) (by decide)) dX4_sweep_271 ?_
                          refine zz_top (y := ge5 z) (congrArg _ (nI_clamp (by omega))) ?_
                          refine zz_top (y := nI (rnT (rmN (RB nk nc fo th tg T nt up) nc) T 1 z)) (by rw [(hrt z (by omega)).2.1, hd z (by omega)]) ?_
                          refine lv_icmp_lt (tgt := 281) hx hb dX4_sweep_272 (by decide) (fun c_7 => ?_) (fun c_7 => ?_)
                          · skip
                            have c9 := (zz_ltt (a := rnT (rmN (RB nk nc fo th tg T nt up) nc) T 0 z) (b := rnT (rmN (RB nk nc fo th tg T nt up) nc) T 1 z) (by omega) (by omega)).mp c_7
                            obtain ⟨D9, hD9e⟩ : ∃ q, q = D := ⟨_, rfl⟩
                            have hr8 := hrt
                            rw [← hD9e] at hr8
                            have ho8 := ho
                            rw [← hD9e] at ho8
                            have hd8 : ∀ e, e < z → ∀ f, D9 f e = rnT (rmN (RB nk nc fo th tg T nt up) nc) T f e := by rw [hD9e]; exact fun e he => hd e (by omega)
                            have hq8 : swT (rmN (RB nk nc fo th tg T nt up) nc) T nt = dlp (fun e => decide (rnT (rmN (RB nk nc fo th tg T nt up) nc) T 0 e < rnT (rmN (RB nk nc fo th tg T nt up) nc) T 1 e)) z (D9, n5) := by rw [hq5, hD9e]; simp only [dlp]; rw [if_pos (decide_eq_true c9)]
                            refine lv_iinc (v := nI z - 1) (lv' := [(4, .int (nI z - 1)), (0, .ref (b 0)), (1, .ref q_11), (3, .int (nI (nc - n)))]) hx hb dX4_sweep_281 hl (k := 3) rfl (zz_decm z) (by decide) rfl (fun ls hl => ?_)
                            refine lv_goto (tgt := 253) hx hb dX4_sweep_284 (by decide) ?_
                            exact ih_253 z n5 gb5 ge5 gk5 gt5 D9 _ _ _ (by first | assumption | omega) (by first | assumption | omega) hr8 ho8 hd8 hq8 (by omega) hP hD hS (lv_sub hl [1, 2, 3, 0] rfl)
                          · skip
                            have c9 := (zz_ltf (a := rnT (rmN (RB nk nc fo th tg T nt up) nc) T 0 z) (b := rnT (rmN (RB nk nc fo th tg T nt up) nc) T 1 z) (by omega) (by omega)).mp c_7
                            refine lv_aload_n hx hb dX4_sweep_275 rfl (lv_at hl 0 rfl) ?_
                            refine lv_iload hx hb dX4_sweep_276 (lv_at hl 3 rfl) ?_
                            have hPc := hP.sub (ws' := w4 b cI cZ 0 nk pa n gf gth gg n5 gb5 ge5 gk5 gt5 ex tc es wy ab re_n go be) [0, 1, 2, 3, 4, 5, 6, 7, 8, 9, 10, 11, 12] rfl
                            have hDc := hD.sub (ws' := w4 b cI cZ 0 nk pa n gf gth gg n5 gb5 ge5 gk5 gt5 ex tc es wy ab re_n go be) [0, 1, 2, 3, 4, 5, 6, 7, 8, 9, 10, 11, 12] (by decide) rfl
                            have hFc := va_free (wc := w4 b cI cZ 0 nk pa n gf gth gg n5 gb5 ge5 gk5 gt5 ex tc es wy ab re_n go be) hD hS hA [0, 1, 2, 3, 4, 5, 6, 7, 8, 9, 10, 11, 12] rfl
                            refine va_callv (va_runV (As := [.int (nI z)]) (rest := []) ⟨hx, hb, hml, hown, hts⟩ (c_X4_remove l dC dI cI cZ cJ b 0 nk pa n gf gth gg n5 gb5 ge5 gk5 gt5 ex tc es wy ab re_n go be z D H.size (by omega) (by omega) (hrt)) (cwV 1 hts gX4_sweep_X4_remove rfl rfl rfl (by decide +kernel) ⟨Nat.le_of_ble_eq_true rfl, Nat.le_of_ble_eq_true rfl⟩) ⟨zWr_blind, va_recv hK hPc (ci := 4) (q0 := 0) rfl rfl, zWr_at hPc hK hn (hDc.weaken (fun _ _ _ _ => trivial))⟩ rfl rfl hl.1 rfl (lv_room (Nat.le_of_ble_eq_true rfl)) dX4_sweep_278 ⟨Nat.le_of_ble_eq_true rfl, Nat.le_of_ble_eq_true rfl⟩) hS (fun q _ h => hFc q h) hFc (fun u_9 t H1 locs ht hvm hw hB hz1 hk1 hS => ?_)
                            obtain ⟨tb_n, te_n, tk_n, tt_n⟩ := u_9
                            dsimp only at hw hB
                            obtain ⟨hP1, -, hD1⟩ := hB
                            rw [ht] at hP1
                            obtain ⟨hP, hD⟩ := va_join (wr := [(q_11, .inl (cI, 49, .inl ga))]) (w1 := w4 b cI cZ 0 nk pa n gf gth gg (n5 - 1) tb_n te_n tk_n tt_n ex tc es wy ab re_n go be) hP hD [0, 1, 2, 3, 4, 5, 6, 7, 8, 9, 10, 11, 12] [13] rfl rfl (by decide) (by decide) hk1 hFc hP1 hD1
                            generalize H1 = H at hP hS ⊢
                            have hP := hP.sub (ws' := w4 b cI cZ 0 nk pa n gf gth gg (n5 - 1) tb_n te_n tk_n tt_n ex tc es wy ab re_n go be ++ [(q_11, .inl (cI, 49, .inl ga))]) [1, 2, 3, 4, 5, 6, 7, 8, 9, 10, 11, 12, 13, 0] rfl
                            have hD := hD.sub (ws' := w4 b cI cZ 0 nk pa n gf gth gg (n5 - 1) tb_n te_n tk_n tt_n ex tc es wy ab re_n go be ++ [(q_11, .inl (cI, 49, .inl ga))]) [1, 2, 3, 4, 5, 6, 7, 8, 9, 10, 11, 12, 13, 0] (by decide) rfl
                            have hP : va_P (dC, dI) vwCl (w4 b cI cZ 0 nk pa n gf gth gg (n5 - 1) tb_n te_n tk_n tt_n ex tc es wy ab re_n go be ++ [(q_11, .inl (cI, 49, .inl ga))]) H := hP
                            have hD : va_D A (w4 b cI cZ 0 nk pa n gf gth gg (n5 - 1) tb_n te_n tk_n tt_n ex tc es wy ab re_n go be ++ [(q_11, .inl (cI, 49, .inl ga))]) := hD
                            obtain ⟨D9, hD9e⟩ : ∃ q, q = dT D z := ⟨_, rfl⟩
                            have hr8 : rT (n5 - 1) tb_n te_n tk_n tt_n D9 := by rw [hD9e]; exact hw
                            have ho8 : okT nk (n5 - 1) D9 := by rw [hD9e]; exact okT_del ho
                            have hd8 : ∀ e, e < z → ∀ f, D9 f e = rnT (rmN (RB nk nc fo th tg T nt up) nc) T f e := by rw [hD9e]; exact fun e he f => by simp only [dT, he, if_true]; exact hd e (by omega) f
                            have hq8 : swT (rmN (RB nk nc fo th tg T nt up) nc) T nt = dlp (fun e => decide (rnT (rmN (RB nk nc fo th tg T nt up) nc) T 0 e < rnT (rmN (RB nk nc fo th tg T nt up) nc) T 1 e)) z (D9, n5 - 1) := by rw [hq5, hD9e]; simp only [dlp]; rw [if_neg (by simp only [decide_eq_true_eq]; omega)]
                            refine lv_iinc (v := nI z - 1) (lv' := [(4, .int (nI z - 1)), (0, .ref (b 0)), (1, .ref q_11), (3, .int (nI (nc - n)))]) hx hb dX4_sweep_281 hl (k := 3) rfl (zz_decm z) (by decide) rfl (fun ls hl => ?_)
                            refine lv_goto (tgt := 253) hx hb dX4_sweep_284 (by decide) ?_
                            exact ih_253 z (n5 - 1) tb_n te_n tk_n tt_n D9 _ _ _ (by first | assumption | omega) (by first | assumption | omega) hr8 ho8 hd8 hq8 (by omega) hP hD hS (lv_sub hl [1, 2, 3, 0] rfl)
                    exact J_253 _ nt nt gb ge gk gt (rnT (rmN (RB nk nc fo th tg T nt up) nc) T) _ _ _ (by first | assumption | omega) (by first | assumption | omega) (fun e he => by have := hr4 e he; simpa [mS, show e < y4 by omega] using this) (okT_rn hO) (fun e _ f => rfl) rfl (Nat.lt_succ_self _) hP hD hS (lv_sub hl [1, 2, 3, 0] rfl)
                  · skip
                    have c_5 := (zz_gef (a := y4) (b := nt) (by omega) (by omega)).mp c_5
                    have hz9 := hr4 y4 (by omega)
                    simp only [mS, show ¬ y4 < y4 by omega, if_false] at hz9
                    obtain ⟨o0, o1, o2, o3⟩ := hO y4 (by omega)
                    refine lv_aload_n hx hb dX4_sweep_175 rfl (lv_at hl 0 rfl) ?_
                    refine lv_iload hx hb dX4_sweep_176 (lv_at hl 3 rfl) ?_
                    refine lv_aload_n hx hb dX4_sweep_178 rfl (lv_at hl 0 rfl) ?_
                    refine va_get (D := (dC, dI)) (ci := 4) (v := .ref (b 5)) (C := RX4) (T := TX4) (N := 20) hx hb hts (by decide +kernel) hown hK hP 0 rfl rfl 8 (by decide) (hts (.fieldLink RX4 26 "HandlerOptimizerModel" "froms" "[I") (by decide +kernel)) (fun _ h9 => h9) rfl dX4_sweep_179 ?_
                    refine lv_iload hx hb dX4_sweep_182 (lv_at hl 3 rfl) ?_
                    refine va_iald hx hb hK hP 5 0 rfl rfl (vp_in_nI (n := y4) (by omega) (by decide)) dX4_sweep_184 ?_
                    refine zz_top (y := gb y4) (congrArg _ (nI_clamp (by omega))) ?_
                    refine zz_top (y := nI (T 0 y4)) (hz9.1) ?_
                    refine lv_aload_n hx hb dX4_sweep_185 rfl (lv_at hl 1 rfl) ?_
                    refine lv_aload_n hx hb dX4_sweep_186 rfl (lv_at hl 0 rfl) ?_
                    refine va_get (D := (dC, dI)) (ci := 4) (v := .ref (b 5)) (C := RX4) (T := TX4) (N := 20) hx hb hts (by decide +kernel) hown hK hP 0 rfl rfl 8 (by decide) (hts (.fieldLink RX4 26 "HandlerOptimizerModel" "froms" "[I") (by decide +kernel)) (fun _ h9 => h9) rfl dX4_sweep_187 ?_
                    refine lv_iload hx hb dX4_sweep_190 (lv_at hl 3 rfl) ?_
                    refine va_iald hx hb hK hP 5 0 rfl rfl (vp_in_nI (n := y4) (by omega) (by decide)) dX4_sweep_192 ?_
                    refine zz_top (y := gb y4) (congrArg _ (nI_clamp (by omega))) ?_
                    refine zz_top (y := nI (T 0 y4)) (hz9.1) ?_
                    refine va_iald hx hb hK hP 13 0 rfl rfl (vp_in_nI (n := T 0 y4) (by omega) (by decide)) dX4_sweep_193 ?_
                    refine zz_top (y := ga (T 0 y4)) (congrArg _ (nI_clamp (by omega))) ?_
                    refine zz_top (y := nI (rmN (RB nk nc fo th tg T nt up) nc (T 0 y4))) (ha _ (by omega)) ?_
                    refine lv_isub hx hb dX4_sweep_194 ?_
                    refine zz_top (y := nI (T 0 y4 - rmN (RB nk nc fo th tg T nt up) nc (T 0 y4))) (zz_subn (ct_le _ _)) ?_
                    refine lv_aload_n hx hb dX4_sweep_195 rfl (lv_at hl 0 rfl) ?_
                    refine va_get (D := (dC, dI)) (ci := 4) (v := .ref (b 6)) (C := RX4) (T := TX4) (N := 20) hx hb hts (by decide +kernel) hown hK hP 0 rfl rfl 9 (by decide) (hts (.fieldLink RX4 29 "HandlerOptimizerModel" "tos" "[I") (by decide +kernel)) (fun _ h9 => h9) rfl dX4_sweep_196 ?_
                    refine lv_iload hx hb dX4_sweep_199 (lv_at hl 3 rfl) ?_
                    refine va_iald hx hb hK hP 6 0 rfl rfl (vp_in_nI (n := y4) (by omega) (by decide)) dX4_sweep_201 ?_
                    refine zz_top (y := ge y4) (congrArg _ (nI_clamp (by omega))) ?_
                    refine zz_top (y := nI (T 1 y4)) (hz9.2.1) ?_
                    refine lv_aload_n hx hb dX4_sweep_202 rfl (lv_at hl 1 rfl) ?_
                    refine lv_aload_n hx hb dX4_sweep_203 rfl (lv_at hl 0 rfl) ?_
                    refine va_get (D := (dC, dI)) (ci := 4) (v := .ref (b 6)) (C := RX4) (T := TX4) (N := 20) hx hb hts (by decide +kernel) hown hK hP 0 rfl rfl 9 (by decide) (hts (.fieldLink RX4 29 "HandlerOptimizerModel" "tos" "[I") (by decide +kernel)) (fun _ h9 => h9) rfl dX4_sweep_204 ?_
                    refine lv_iload hx hb dX4_sweep_207 (lv_at hl 3 rfl) ?_
                    refine va_iald hx hb hK hP 6 0 rfl rfl (vp_in_nI (n := y4) (by omega) (by decide)) dX4_sweep_209 ?_
                    refine zz_top (y := ge y4) (congrArg _ (nI_clamp (by omega))) ?_
                    refine zz_top (y := nI (T 1 y4)) (hz9.2.1) ?_
                    refine va_iald hx hb hK hP 13 0 rfl rfl (vp_in_nI (n := T 1 y4) (by omega) (by decide)) dX4_sweep_210 ?_
                    refine zz_top (y := ga (T 1 y4)) (congrArg _ (nI_clamp (by omega))) ?_
                    refine zz_top (y := nI (rmN (RB nk nc fo th tg T nt up) nc (T 1 y4))) (ha _ (by omega)) ?_
                    refine lv_isub hx hb dX4_sweep_211 ?_
                    refine zz_top (y := nI (T 1 y4 - rmN (RB nk nc fo th tg T nt up) nc (T 1 y4))) (zz_subn (ct_le _ _)) ?_
                    refine lv_aload_n hx hb dX4_sweep_212 rfl (lv_at hl 0 rfl) ?_
                    refine va_get (D := (dC, dI)) (ci := 4) (v := .ref (b 7)) (C := RX4) (T := TX4) (N := 20) hx hb hts (by decide +kernel) hown hK hP 0 rfl rfl 10 (by decide) (hts (.fieldLink RX4 32 "HandlerOptimizerModel" "entryKinds" "[I") (by decide +kernel)) (fun _ h9 => h9) rfl dX4_sweep_213 ?_
                    refine lv_iload hx hb dX4_sweep_216 (lv_at hl 3 rfl) ?_
                    refine va_iald hx hb hK hP 7 0 rfl rfl (vp_in_nI (n := y4) (by omega) (by decide)) dX4_sweep_218 ?_
                    refine zz_top (y := gk y4) (congrArg _ (nI_clamp (by omega))) ?_
                    refine zz_top (y := nI (T 2 y4)) (hz9.2.2.1) ?_
                    refine lv_aload_n hx hb dX4_sweep_219 rfl (lv_at hl 0 rfl) ?_
                    refine va_get (D := (dC, dI)) (ci := 4) (v := .ref (b 8)) (C := RX4) (T := TX4) (N := 20) hx hb hts (by decide +kernel) hown hK hP 0 rfl rfl 11 (by decide) (hts (.fieldLink RX4 35 "HandlerOptimizerModel" "entryTargets" "[I") (by decide +kernel)) (fun _ h9 => h9) rfl dX4_sweep_220 ?_
                    refine lv_iload hx hb dX4_sweep_223 (lv_at hl 3 rfl) ?_
                    refine va_iald hx hb hK hP 8 0 rfl rfl (vp_in_nI (n := y4) (by omega) (by decide)) dX4_sweep_225 ?_
                    refine zz_top (y := gt y4) (congrArg _ (nI_clamp (by omega))) ?_
                    refine zz_top (y := nI (T 3 y4)) (hz9.2.2.2) ?_
                    refine lv_aload_n hx hb dX4_sweep_226 rfl (lv_at hl 1 rfl) ?_
                    refine lv_aload_n hx hb dX4_sweep_227 rfl (lv_at hl 0 rfl) ?_
                    refine va_get (D := (dC, dI)) (ci := 4) (v := .ref (b 8)) (C := RX4) (T := TX4) (N := 20) hx hb hts (by decide +kernel) hown hK hP 0 rfl rfl 11 (by decide) (hts (.fieldLink RX4 35 "HandlerOptimizerModel" "entryTargets" "[I") (by decide +kernel)) (fun _ h9 => h9) rfl dX4_sweep_228 ?_
                    refine lv_iload hx hb dX4_sweep_231 (lv_at hl 3 rfl) ?_
                    refine va_iald hx hb hK hP 8 0 rfl rfl (vp_in_nI (n := y4) (by omega) (by decide)) dX4_sweep_233 ?_
                    refine zz_top (y := gt y4) (congrArg _ (nI_clamp (by omega))) ?_
                    refine zz_top (y := nI (T 3 y4)) (hz9.2.2.2) ?_
                    refine va_iald hx hb hK hP 13 0 rfl rfl (vp_in_nI (n := T 3 y4) (by omega) (by decide)) dX4_sweep_234 ?_
                    refine zz_top (y := ga (T 3 y4)) (congrArg _ (nI_clamp (by omega))) ?_
                    refine zz_top (y := nI (rmN (RB nk nc fo th tg T nt up) nc (T 3 y4))) (ha _ (by omega)) ?_
                    refine lv_isub hx hb dX4_sweep_235 ?_
                    refine zz_top (y := nI (T 3 y4 - rmN (RB nk nc fo th tg T nt up) nc (T 3 y4))) (zz_subn (ct_le _ _)) ?_
                    have hPc := hP.sub (ws' := w4 b cI cZ 0 nk pa n gf gth gg nt gb ge gk gt ex tc es wy ab re_n go be) [0, 1, 2, 3, 4, 5, 6, 7, 8, 9, 10, 11, 12] rfl
                    have hDc := hD.sub (ws' := w4 b cI cZ 0 nk pa n gf gth gg nt gb ge gk gt ex tc es wy ab re_n go be) [0, 1, 2, 3, 4, 5, 6, 7, 8, 9, 10, 11, 12] (by decide) rfl
                    have hFc := va_free (wc := w4 b cI cZ 0 nk pa n gf gth gg nt gb ge gk gt ex tc es wy ab re_n go be) hD hS hA [0, 1, 2, 3, 4, 5, 6, 7, 8, 9, 10, 11, 12] rfl
                    refine va_callv (va_runV (As := [.int (nI y4), .int (nI (T 0 y4 - rmN (RB nk nc fo th tg T nt up) nc (T 0 y4))), .int (nI (T 1 y4 - rmN (RB nk nc fo th tg T nt up) nc (T 1 y4))), .int (nI (T 2 y4)), .int (nI (T 3 y4 - rmN (RB nk nc fo th tg T nt up) nc (T 3 y4)))]) (rest := []) ⟨hx, hb, hml, hown, hts⟩ (c_X4_put l dC dI cI cZ cJ b 0 nk pa n gf gth gg nt gb ge gk gt ex tc es wy ab re_n go be y4 (nI (T 0 y4 - rmN (RB nk nc fo th tg T nt up) nc (T 0 y4))) (nI (T 1 y4 - rmN (RB nk nc fo th tg T nt up) nc (T 1 y4))) (nI (T 2 y4)) (nI (T 3 y4 - rmN (RB nk nc fo th tg T nt up) nc (T 3 y4))) H.size (by omega)) (cwV 5 hts gX4_sweep_X4_put rfl rfl rfl (by decide +kernel) ⟨Nat.le_of_ble_eq_true rfl, Nat.le_of_ble_eq_true rfl⟩) ⟨zWr_blind, va_recv hK hPc (ci := 4) (q0 := 0) rfl rfl, zWr_at hPc hK hn (hDc.weaken (fun _ _ _ _ => trivial))⟩ rfl rfl hl.1 rfl (lv_room (Nat.le_of_ble_eq_true rfl)) dX4_sweep_236 ⟨Nat.le_of_ble_eq_true rfl, Nat.le_of_ble_eq_true rfl⟩) hS (fun q _ h => hFc q h) hFc (fun u_9 t H1 locs ht hvm hw hB hz1 hk1 hS => ?_)
                    obtain ⟨hP1, -, hD1⟩ := hB
                    rw [ht] at hP1
                    obtain ⟨hP, hD⟩ := va_join (wr := [(q_11, .inl (cI, 49, .inl ga))]) (w1 := w4 b cI cZ 0 nk pa n gf gth gg nt (upd gb y4 (nI (T 0 y4 - rmN (RB nk nc fo th tg T nt up) nc (T 0 y4)))) (upd ge y4 (nI (T 1 y4 - rmN (RB nk nc fo th tg T nt up) nc (T 1 y4)))) (upd gk y4 (nI (T 2 y4))) (upd gt y4 (nI (T 3 y4 - rmN (RB nk nc fo th tg T nt up) nc (T 3 y4)))) ex tc es wy ab re_n go be) hP hD [0, 1, 2, 3, 4, 5, 6, 7, 8, 9, 10, 11, 12] [13] rfl rfl (by decide) (by decide) hk1 hFc hP1 hD1
                    generalize H1 = H at hP hS ⊢
                    have hP := hP.sub (ws' := w4 b cI cZ 0 nk pa n gf gth gg nt (upd gb y4 (nI (T 0 y4 - rmN (RB nk nc fo th tg T nt up) nc (T 0 y4)))) (upd ge y4 (nI (T 1 y4 - rmN (RB nk nc fo th tg T nt up) nc (T 1 y4)))) (upd gk y4 (nI (T 2 y4))) (upd gt y4 (nI (T 3 y4 - rmN (RB nk nc fo th tg T nt up) nc (T 3 y4)))) ex tc es wy ab re_n go be ++ [(q_11, .inl (cI, 49, .inl ga))]) [1, 2, 3, 4, 5, 6, 7, 8, 9, 10, 11, 12, 13, 0] rfl
                    have hD := hD.sub (ws' := w4 b cI cZ 0 nk pa n gf gth gg nt (upd gb y4 (nI (T 0 y4 - rmN (RB nk nc fo th tg T nt up) nc (T 0 y4)))) (upd ge y4 (nI (T 1 y4 - rmN (RB nk nc fo th tg T nt up) nc (T 1 y4)))) (upd gk y4 (nI (T 2 y4))) (upd gt y4 (nI (T 3 y4 - rmN (RB nk nc fo th tg T nt up) nc (T 3 y4)))) ex tc es wy ab re_n go be ++ [(q_11, .inl (cI, 49, .inl ga))]) [1, 2, 3, 4, 5, 6, 7, 8, 9, 10, 11, 12, 13, 0] (by decide) rfl
                    have hP : va_P (dC, dI) vwCl (w4 b cI cZ 0 nk pa n gf gth gg nt (upd gb y4 (nI (T 0 y4 - rmN (RB nk nc fo th tg T nt up) nc (T 0 y4)))) (upd ge y4 (nI (T 1 y4 - rmN (RB nk nc fo th tg T nt up) nc (T 1 y4)))) (upd gk y4 (nI (T 2 y4))) (upd gt y4 (nI (T 3 y4 - rmN (RB nk nc fo th tg T nt up) nc (T 3 y4)))) ex tc es wy ab re_n go be ++ [(q_11, .inl (cI, 49, .inl ga))]) H := hP
                    have hD : va_D A (w4 b cI cZ 0 nk pa n gf gth gg nt (upd gb y4 (nI (T 0 y4 - rmN (RB nk nc fo th tg T nt up) nc (T 0 y4)))) (upd ge y4 (nI (T 1 y4 - rmN (RB nk nc fo th tg T nt up) nc (T 1 y4)))) (upd gk y4 (nI (T 2 y4))) (upd gt y4 (nI (T 3 y4 - rmN (RB nk nc fo th tg T nt up) nc (T 3 y4)))) ex tc es wy ab re_n go be ++ [(q_11, .inl (cI, 49, .inl ga))]) := hD
                    refine lv_iinc (v := nI (y4 + 1)) (lv' := [(4, .int (nI (y4 + 1))), (0, .ref (b 0)), (1, .ref q_11), (3, .int (nI (nc - n)))]) hx hb dX4_sweep_239 hl (k := 3) rfl (zz_inc y4 1) (by decide) rfl (fun ls hl => ?_)
                    refine lv_goto (tgt := 166) hx hb dX4_sweep_242 (by decide) ?_
                    exact ih_166 (y4 + 1) (upd gb y4 (nI (T 0 y4 - rmN (RB nk nc fo th tg T nt up) nc (T 0 y4)))) (upd ge y4 (nI (T 1 y4 - rmN (RB nk nc fo th tg T nt up) nc (T 1 y4)))) (upd gk y4 (nI (T 2 y4))) (upd gt y4 (nI (T 3 y4 - rmN (RB nk nc fo th tg T nt up) nc (T 3 y4)))) _ _ _ (by first | assumption | omega) (rT_rn hr4) (by omega) hP hD hS (lv_sub hl [1, 2, 3, 0] rfl)
              exact J_166 _ 0 tb te tk tt _ _ _ (by first | assumption | omega) (fun e he => by simpa [mS] using hT e he) (Nat.lt_succ_self _) hP hD hS (lv_sub hl [2, 3, 1, 0] rfl)
            · skip
              have c_4 := (zz_gef (a := y2) (b := nc) (by omega) (by omega)).mp c_4
              refine lv_aload_n hx hb dX4_sweep_71 rfl (lv_at hl 0 rfl) ?_
              refine va_get (D := (dC, dI)) (ci := 4) (v := .ref (b 10)) (C := RX4) (T := TX4) (N := 20) hx hb hts (by decide +kernel) hown hK hP 0 rfl rfl 17 (by decide) (hts (.fieldLink RX4 44 "HandlerOptimizerModel" "areReached" "[Z") (by decide +kernel)) (fun _ h9 => h9) rfl dX4_sweep_72 ?_
              refine lv_iload_n hx hb dX4_sweep_75 rfl (lv_at hl 3 rfl) ?_
              refine va_zald hx hb hK hP 10 1 rfl rfl (vp_in_nI (n := y2) (by omega) (by decide)) dX4_sweep_76 ?_
              refine zz_top (y := re_n y2) (congrArg _ (nI_clamp (by omega))) ?_
              refine zz_top (y := bI (RB nk nc fo th tg T nt up y2)) (hre y2 (by omega)) ?_
              refine lv_if_ne (tgt := 83) hx hb dX4_sweep_77 (by decide) (fun c_14 => ?_) (fun c_14 => ?_)
              · skip
                have c9 := zb_1.mp c_14
                have hn8 := hs.1
                have hgy := (hs.2.1 y2 (Nat.le_refl _)).2.2
                refine lv_aload_n hx hb dX4_sweep_83 rfl (lv_at hl 0 rfl) ?_
                refine va_get (D := (dC, dI)) (ci := 4) (v := .ref (b 2)) (C := RX4) (T := TX4) (N := 20) hx hb hts (by decide +kernel) hown hK hP 0 rfl rfl 4 (by decide) (hts (.fieldLink RX4 17 "HandlerOptimizerModel" "forms" "[I") (by decide +kernel)) (fun _ h9 => h9) rfl dX4_sweep_84 ?_
                refine lv_iload_n hx hb dX4_sweep_87 rfl (lv_at hl 2 rfl) ?_
                refine lv_aload_n hx hb dX4_sweep_88 rfl (lv_at hl 0 rfl) ?_
                refine va_get (D := (dC, dI)) (ci := 4) (v := .ref (b 2)) (C := RX4) (T := TX4) (N := 20) hx hb hts (by decide +kernel) hown hK hP 0 rfl rfl 4 (by decide) (hts (.fieldLink RX4 17 "HandlerOptimizerModel" "forms" "[I") (by decide +kernel)) (fun _ h9 => h9) rfl dX4_sweep_89 ?_
                refine lv_iload_n hx hb dX4_sweep_92 rfl (lv_at hl 3 rfl) ?_
                refine va_iald hx hb hK hP 2 0 rfl rfl (vp_in_nI (n := y2) (by omega) (by decide)) dX4_sweep_93 ?_
                refine zz_top (y := gf y2) (congrArg _ (nI_clamp (by omega))) ?_
                refine va_iast hx hb hK hP hD hS 2 0 rfl rfl (vp_in_nI (n := n) (by omega) (by decide)) dX4_sweep_94 (fun H locs hP hD hS => ?_)
                rw [nI_clamp (n := n) (by omega)] at hP hD
                have hP : va_P (dC, dI) vwCl (w4 b cI cZ 0 nk pa nc (upd gf n (gf y2)) gth gg nt tb te tk tt ex tc es wy ab re_n go be ++ [(q_11, .inl (cI, 49, .inl ga))]) H := hP
                have hD : va_D A (w4 b cI cZ 0 nk pa nc (upd gf n (gf y2)) gth gg nt tb te tk tt ex tc es wy ab re_n go be ++ [(q_11, .inl (cI, 49, .inl ga))]) := hD
                refine lv_aload_n hx hb dX4_sweep_95 rfl (lv_at hl 0 rfl) ?_
                refine va_get (D := (dC, dI)) (ci := 4) (v := .ref (b 3)) (C := RX4) (T := TX4) (N := 20) hx hb hts (by decide +kernel) hown hK hP 0 rfl rfl 5 (by decide) (hts (.fieldLink RX4 20 "HandlerOptimizerModel" "errors" "[I") (by decide +kernel)) (fun _ h9 => h9) rfl dX4_sweep_96 ?_
                refine lv_iload_n hx hb dX4_sweep_99 rfl (lv_at hl 2 rfl) ?_
                refine lv_aload_n hx hb dX4_sweep_100 rfl (lv_at hl 0 rfl) ?_
                refine va_get (D := (dC, dI)) (ci := 4) (v := .ref (b 3)) (C := RX4) (T := TX4) (N := 20) hx hb hts (by decide +kernel) hown hK hP 0 rfl rfl 5 (by decide) (hts (.fieldLink RX4 20 "HandlerOptimizerModel" "errors" "[I") (by decide +kernel)) (fun _ h9 => h9) rfl dX4_sweep_101 ?_
                refine lv_iload_n hx hb dX4_sweep_104 rfl (lv_at hl 3 rfl) ?_
                refine va_iald hx hb hK hP 3 0 rfl rfl (vp_in_nI (n := y2) (by omega) (by decide)) dX4_sweep_105 ?_
                refine zz_top (y := gth y2) (congrArg _ (nI_clamp (by omega))) ?_
                refine va_iast hx hb hK hP hD hS 3 0 rfl rfl (vp_in_nI (n := n) (by omega) (by decide)) dX4_sweep_106 (fun H locs hP hD hS => ?_)
                rw [nI_clamp (n := n) (by omega)] at hP hD
                have hP : va_P (dC, dI) vwCl (w4 b cI cZ 0 nk pa nc (upd gf n (gf y2)) (upd gth n (gth y2)) gg nt tb te tk tt ex tc es wy ab re_n go be ++ [(q_11, .inl (cI, 49, .inl ga))]) H := hP
                have hD : va_D A (w4 b cI cZ 0 nk pa nc (upd gf n (gf y2)) (upd gth n (gth y2)) gg nt tb te tk tt ex tc es wy ab re_n go be ++ [(q_11, .inl (cI, 49, .inl ga))]) := hD
                refine lv_aload_n hx hb dX4_sweep_107 rfl (lv_at hl 0 rfl) ?_
                refine va_get (D := (dC, dI)) (ci := 4) (v := .ref (b 4)) (C := RX4) (T := TX4) (N := 20) hx hb hts (by decide +kernel) hown hK hP 0 rfl rfl 6 (by decide) (hts (.fieldLink RX4 23 "HandlerOptimizerModel" "targets" "[I") (by decide +kernel)) (fun _ h9 => h9) rfl dX4_sweep_108 ?_
                refine lv_iload_n hx hb dX4_sweep_111 rfl (lv_at hl 2 rfl) ?_
                refine lv_aload_n hx hb dX4_sweep_112 rfl (lv_at hl 0 rfl) ?_
                refine va_get (D := (dC, dI)) (ci := 4) (v := .ref (b 4)) (C := RX4) (T := TX4) (N := 20) hx hb hts (by decide +kernel) hown hK hP 0 rfl rfl 6 (by decide) (hts (.fieldLink RX4 23 "HandlerOptimizerModel" "targets" "[I") (by decide +kernel)) (fun _ h9 => h9) rfl dX4_sweep_113 ?_
                refine lv_iload_n hx hb dX4_sweep_116 rfl (lv_at hl 3 rfl) ?_
                refine va_iald hx hb hK hP 4 0 rfl rfl (vp_in_nI (n := y2) (by omega) (by decide)) dX4_sweep_117 ?_
                refine zz_top (y := gg y2) (congrArg _ (nI_clamp (by omega))) ?_
                refine lv_iconst (v := -1) hx hb dX4_sweep_118 (by decide) ?_
                refine lv_icmp_ne (tgt := 126) hx hb dX4_sweep_119 (by decide) (fun c_15 => ?_) (fun c_15 => ?_)
                · skip
                  obtain ⟨t9, ht8, ht7⟩ : ∃ t9, t9 < 48 ∧ gg y2 = nI t9 := by
                    rcases (hC y2 (by omega)).1 with ⟨-, q⟩ | ⟨-, t9, q1, q2⟩
                    · exact absurd (hgy.trans q) c_15
                    · exact ⟨t9, q1, hgy.trans q2⟩
                  have ht9 : nI (t9 - rmN (RB nk nc fo th tg T nt up) nc t9) = tgr (rmN (RB nk nc fo th tg T nt up) nc) (gg y2) := by rw [ht7]; exact tgr_at (by omega)
                  refine lv_aload_n hx hb dX4_sweep_126 rfl (lv_at hl 0 rfl) ?_
                  refine va_get (D := (dC, dI)) (ci := 4) (v := .ref (b 4)) (C := RX4) (T := TX4) (N := 20) hx hb hts (by decide +kernel) hown hK hP 0 rfl rfl 6 (by decide) (hts (.fieldLink RX4 23 "HandlerOptimizerModel" "targets" "[I") (by decide +kernel)) (fun _ h9 => h9) rfl dX4_sweep_127 ?_
                  refine lv_iload_n hx hb dX4_sweep_130 rfl (lv_at hl 3 rfl) ?_
                  refine va_iald hx hb hK hP 4 0 rfl rfl (vp_in_nI (n := y2) (by omega) (by decide)) dX4_sweep_131 ?_
                  refine zz_top (y := gg y2) (congrArg _ (nI_clamp (by omega))) ?_
                  refine zz_top (y := nI t9) (ht7) ?_
                  refine lv_aload_n hx hb dX4_sweep_132 rfl (lv_at hl 1 rfl) ?_
                  refine lv_aload_n hx hb dX4_sweep_133 rfl (lv_at hl 0 rfl) ?_
                  refine va_get (D := (dC, dI)) (ci := 4) (v := .ref (b 4)) (C := RX4) (T := TX4) (N := 20) hx hb hts (by decide +kernel) hown hK hP 0 rfl rfl 6 (by decide) (hts (.fieldLink RX4 23 "HandlerOptimizerModel" "targets" "[I") (by decide +kernel)) (fun _ h9 => h9) rfl dX4_sweep_134 ?_
                  refine lv_iload_n hx hb dX4_sweep_137 rfl (lv_at hl 3 rfl) ?_
                  refine va_iald hx hb hK hP 4 0 rfl rfl (vp_in_nI (n := y2) (by omega) (by decide)) dX4_sweep_138 ?_
                  refine zz_top (y := gg y2) (congrArg _ (nI_clamp (by omega))) ?_
                  refine zz_top (y := nI t9) (ht7) ?_
                  refine va_iald hx hb hK hP 13 0 rfl rfl (vp_in_nI (n := t9) (by omega) (by decide)) dX4_sweep_139 ?_
                  refine zz_top (y := ga t9) (congrArg _ (nI_clamp (by omega))) ?_
                  refine zz_top (y := nI (rmN (RB nk nc fo th tg T nt up) nc t9)) (ha t9 (by omega)) ?_
                  refine lv_isub hx hb dX4_sweep_140 ?_
                  refine zz_top (y := nI (t9 - rmN (RB nk nc fo th tg T nt up) nc t9)) (zz_subn (ct_le _ _)) ?_
                  refine va_iast hx hb hK hP hD hS 4 0 rfl rfl (vp_in_nI (n := n) (by omega) (by decide)) dX4_sweep_141 (fun H locs hP hD hS => ?_)
                  rw [nI_clamp (n := n) (by omega)] at hP hD
                  have hP : va_P (dC, dI) vwCl (w4 b cI cZ 0 nk pa nc (upd gf n (gf y2)) (upd gth n (gth y2)) (upd gg n (nI (t9 - rmN (RB nk nc fo th tg T nt up) nc t9))) nt tb te tk tt ex tc es wy ab re_n go be ++ [(q_11, .inl (cI, 49, .inl ga))]) H := hP
                  have hD : va_D A (w4 b cI cZ 0 nk pa nc (upd gf n (gf y2)) (upd gth n (gth y2)) (upd gg n (nI (t9 - rmN (RB nk nc fo th tg T nt up) nc t9))) nt tb te tk tt ex tc es wy ab re_n go be ++ [(q_11, .inl (cI, 49, .inl ga))]) := hD
                  refine lv_iinc (v := nI (n + 1)) (lv' := [(2, .int (nI (n + 1))), (0, .ref (b 0)), (1, .ref q_11), (3, .int (nI y2))]) hx hb dX4_sweep_142 hl (k := 2) rfl (zz_inc n 1) (by decide) rfl (fun ls hl => ?_)
                  refine lv_iinc (v := nI (y2 + 1)) (lv' := [(3, .int (nI (y2 + 1))), (2, .int (nI (n + 1))), (0, .ref (b 0)), (1, .ref q_11)]) hx hb dX4_sweep_145 hl (k := 3) rfl (zz_inc y2 1) (by decide) rfl (fun ls hl => ?_)
                  refine lv_goto (tgt := 63) hx hb dX4_sweep_148 (by decide) ?_
                  exact ih_63 (y2 + 1) (n + 1) (upd gf n (gf y2)) (upd gth n (gth y2)) (upd gg n (nI (t9 - rmN (RB nk nc fo th tg T nt up) nc t9))) _ _ _ (by first | assumption | omega) (by first | exact swI_0 hs | (rw [ht9]; exact swI_s hs (by omega))) (by simp only [it]; rw [← hq]; simp [swG, *]) (by omega) hP hD hS (lv_sub hl [2, 3, 1, 0] rfl)
                · skip
                  have ht9 : -1 = tgr (rmN (RB nk nc fo th tg T nt up) nc) (gg y2) := tgr_m1 c_15
                  refine lv_iconst (v := -1) hx hb dX4_sweep_122 (by decide) ?_
                  refine lv_goto (tgt := 141) hx hb dX4_sweep_123 (by decide) ?_
                  refine va_iast hx hb hK hP hD hS 4 0 rfl rfl (vp_in_nI (n := n) (by omega) (by decide)) dX4_sweep_141 (fun H locs hP hD hS => ?_)
                  rw [nI_clamp (n := n) (by omega)] at hP hD
                  have hP : va_P (dC, dI) vwCl (w4 b cI cZ 0 nk pa nc (upd gf n (gf y2)) (upd gth n (gth y2)) (upd gg n (-1)) nt tb te tk tt ex tc es wy ab re_n go be ++ [(q_11, .inl (cI, 49, .inl ga))]) H := hP
                  have hD : va_D A (w4 b cI cZ 0 nk pa nc (upd gf n (gf y2)) (upd gth n (gth y2)) (upd gg n (-1)) nt tb te tk tt ex tc es wy ab re_n go be ++ [(q_11, .inl (cI, 49, .inl ga))]) := hD
                  refine lv_iinc (v := nI (n + 1)) (lv' := [(2, .int (nI (n + 1))), (0, .ref (b 0)), (1, .ref q_11), (3, .int (nI y2))]) hx hb dX4_sweep_142 hl (k := 2) rfl (zz_inc n 1) (by decide) rfl (fun ls hl => ?_)
                  refine lv_iinc (v := nI (y2 + 1)) (lv' := [(3, .int (nI (y2 + 1))), (2, .int (nI (n + 1))), (0, .ref (b 0)), (1, .ref q_11)]) hx hb dX4_sweep_145 hl (k := 3) rfl (zz_inc y2 1) (by decide) rfl (fun ls hl => ?_)
                  refine lv_goto (tgt := 63) hx hb dX4_sweep_148 (by decide) ?_
                  exact ih_63 (y2 + 1) (n + 1) (upd gf n (gf y2)) (upd gth n (gth y2)) (upd gg n (-1)) _ _ _ (by first | assumption | omega) (by first | exact swI_0 hs | (rw [ht9]; exact swI_s hs (by omega))) (by simp only [it]; rw [← hq]; simp [swG, *]) (by omega) hP hD hS (lv_sub hl [2, 3, 1, 0] rfl)
              · skip
                have c9 := zb_0.mp c_14
                refine lv_goto (tgt := 145) hx hb dX4_sweep_80 (by decide) ?_
                refine lv_iinc (v := nI (y2 + 1)) (lv' := [(3, .int (nI (y2 + 1))), (0, .ref (b 0)), (1, .ref q_11), (2, .int (nI n))]) hx hb dX4_sweep_145 hl (k := 3) rfl (zz_inc y2 1) (by decide) rfl (fun ls hl => ?_)
                refine lv_goto (tgt := 63) hx hb dX4_sweep_148 (by decide) ?_
                exact ih_63 (y2 + 1) n gf gth gg _ _ _ (by first | assumption | omega) (by first | exact swI_0 hs | (rw [ht9]; exact swI_s hs (by omega))) (by simp only [it]; rw [← hq]; simp [swG, *]) (by omega) hP hD hS (lv_sub hl [1, 2, 3, 0] rfl)
        exact J_63 _ 0 0 fo th tg _ _ _ (by first | assumption | omega) (⟨Nat.le_refl _, fun j _ => ⟨rfl, rfl, rfl⟩, fun j hj => absurd hj (Nat.not_lt_zero j)⟩) rfl (Nat.lt_succ_self _) hP hD hS (lv_sub hl [2, 3, 1, 0] rfl)
      · skip
        have c_3 := (zz_gef (a := y) (b := 48) (by omega) (by omega)).mp c_3
        refine lv_aload_n hx hb dX4_sweep_22 rfl (lv_at hl 1 rfl) ?_
        refine lv_iload_n hx hb dX4_sweep_23 rfl (lv_at hl 2 rfl) ?_
        refine lv_iconst (v := 1) hx hb dX4_sweep_24 (by decide) ?_
        refine lv_iadd hx hb dX4_sweep_25 ?_
        refine zz_top (y := nI (y + 1)) (nI_add _ _) ?_
        refine lv_aload_n hx hb dX4_sweep_26 rfl (lv_at hl 1 rfl) ?_
        refine lv_iload_n hx hb dX4_sweep_27 rfl (lv_at hl 2 rfl) ?_
        refine va_iald hx hb hK hP 13 0 rfl rfl (vp_in_nI (n := y) (by omega) (by decide)) dX4_sweep_28 ?_
        refine zz_top (y := ga y) (congrArg _ (nI_clamp (by omega))) ?_
        refine zz_top (y := nI (rmN (RB nk nc fo th tg T nt up) nc y)) (ha y (Nat.le_refl _)) ?_
        refine lv_iload_n hx hb dX4_sweep_29 rfl (lv_at hl 2 rfl) ?_
        refine lv_aload_n hx hb dX4_sweep_30 rfl (lv_at hl 0 rfl) ?_
        refine va_get (D := (dC, dI)) (ci := 4) (v := .int (nI nc)) (C := RX4) (T := TX4) (N := 20) hx hb hts (by decide +kernel) hown hK hP 0 rfl rfl 3 (by decide) (hts (.fieldLink RX4 61 "HandlerOptimizerModel" "size" "I") (by decide +kernel)) (fun _ h9 => h9) rfl dX4_sweep_31 ?_
        refine lv_icmp_ge (tgt := 50) hx hb dX4_sweep_34 (by decide) (fun c_16 => ?_) (fun c_16 => ?_)
        · skip
          have c8 := (zz_get (a := y) (b := nc) (by omega) (by omega)).mp c_16
          have c7 : ¬ y < nc := by omega
          have e9 : rmN (RB nk nc fo th tg T nt up) nc (y + 1) = rmN (RB nk nc fo th tg T nt up) nc y := by simp only [rmN, ct]; simp [*]
          refine lv_iconst (v := 0) hx hb dX4_sweep_50 (by decide) ?_
          refine lv_iadd hx hb dX4_sweep_51 ?_
          refine zz_top (y := nI ((rmN (RB nk nc fo th tg T nt up) nc y) + 0)) (nI_add _ _) ?_
          refine zz_top (y := nI (rmN (RB nk nc fo th tg T nt up) nc (y + 1))) (by first | (rw [e9]; done) | (rw [e9]; rfl)) ?_
          refine va_iast hx hb hK hP hD hS 13 0 rfl rfl (vp_in_nI (n := y + 1) (by omega) (by decide)) dX4_sweep_52 (fun H locs hP hD hS => ?_)
          rw [nI_clamp (n := y + 1) (by omega)] at hP hD
          have hP : va_P (dC, dI) vwCl (w4 b cI cZ 0 nk pa nc fo th tg nt tb te tk tt ex tc es wy ab re_n go be ++ [(q_11, .inl (cI, 49, .inl (upd ga (y + 1) (nI (rmN (RB nk nc fo th tg T nt up) nc (y + 1))))))]) H := hP
          have hD : va_D A (w4 b cI cZ 0 nk pa nc fo th tg nt tb te tk tt ex tc es wy ab re_n go be ++ [(q_11, .inl (cI, 49, .inl (upd ga (y + 1) (nI (rmN (RB nk nc fo th tg T nt up) nc (y + 1))))))]) := hD
          refine lv_iinc (v := nI (y + 1)) (lv' := [(2, .int (nI (y + 1))), (0, .ref (b 0)), (1, .ref q_11)]) hx hb dX4_sweep_53 hl (k := 2) rfl (zz_inc y 1) (by decide) rfl (fun ls hl => ?_)
          refine lv_goto (tgt := 16) hx hb dX4_sweep_56 (by decide) ?_
          exact ih_16 (y + 1) (upd ga (y + 1) (nI (rmN (RB nk nc fo th tg T nt up) nc (y + 1)))) _ _ _ (by first | assumption | omega) (by
                  intro n hn2
                  by_cases d : n = y + 1
                  · subst d; simp [upd]
                  · simp only [upd, if_neg d]; exact ha n (by omega)) (by omega) hP hD hS (lv_sub hl [1, 2, 0] rfl)
        · skip
          have c8 := (zz_gef (a := y) (b := nc) (by omega) (by omega)).mp c_16
          refine lv_aload_n hx hb dX4_sweep_37 rfl (lv_at hl 0 rfl) ?_
          refine va_get (D := (dC, dI)) (ci := 4) (v := .ref (b 10)) (C := RX4) (T := TX4) (N := 20) hx hb hts (by decide +kernel) hown hK hP 0 rfl rfl 17 (by decide) (hts (.fieldLink RX4 44 "HandlerOptimizerModel" "areReached" "[Z") (by decide +kernel)) (fun _ h9 => h9) rfl dX4_sweep_38 ?_
          refine lv_iload_n hx hb dX4_sweep_41 rfl (lv_at hl 2 rfl) ?_
          refine va_zald hx hb hK hP 10 1 rfl rfl (vp_in_nI (n := y) (by omega) (by decide)) dX4_sweep_42 ?_
          refine zz_top (y := re_n y) (congrArg _ (nI_clamp (by omega))) ?_
          refine zz_top (y := bI (RB nk nc fo th tg T nt up y)) (hre y (by omega)) ?_
          refine lv_if_ne (tgt := 50) hx hb dX4_sweep_43 (by decide) (fun c_17 => ?_) (fun c_17 => ?_)
          · skip
            have c7 := zb_1.mp c_17
            have e9 : rmN (RB nk nc fo th tg T nt up) nc (y + 1) = rmN (RB nk nc fo th tg T nt up) nc y := by simp only [rmN, ct]; simp [*]
            refine lv_iconst (v := 0) hx hb dX4_sweep_50 (by decide) ?_
            refine lv_iadd hx hb dX4_sweep_51 ?_
            refine zz_top (y := nI ((rmN (RB nk nc fo th tg T nt up) nc y) + 0)) (nI_add _ _) ?_
            refine zz_top (y := nI (rmN (RB nk nc fo th tg T nt up) nc (y + 1))) (by first | (rw [e9]; done) | (rw [e9]; rfl)) ?_
            refine va_iast hx hb hK hP hD hS 13 0 rfl rfl (vp_in_nI (n := y + 1) (by omega) (by decide)) dX4_sweep_52 (fun H locs hP hD hS => ?_)
            rw [nI_clamp (n := y + 1) (by omega)] at hP hD
            have hP : va_P (dC, dI) vwCl (w4 b cI cZ 0 nk pa nc fo th tg nt tb te tk tt ex tc es wy ab re_n go be ++ [(q_11, .inl (cI, 49, .inl (upd ga (y + 1) (nI (rmN (RB nk nc fo th tg T nt up) nc (y + 1))))))]) H := hP
            have hD : va_D A (w4 b cI cZ 0 nk pa nc fo th tg nt tb te tk tt ex tc es wy ab re_n go be ++ [(q_11, .inl (cI, 49, .inl (upd ga (y + 1) (nI (rmN (RB nk nc fo th tg T nt up) nc (y + 1))))))]) := hD
            refine lv_iinc (v := nI (y + 1)) (lv' := [(2, .int (nI (y + 1))), (0, .ref (b 0)), (1, .ref q_11)]) hx hb dX4_sweep_53 hl (k := 2) rfl (zz_inc y 1) (by decide) rfl (fun ls hl => ?_)
            refine lv_goto (tgt := 16) hx hb dX4_sweep_56 (by decide) ?_
            exact ih_16 (y + 1) (upd ga (y + 1) (nI (rmN (RB nk nc fo th tg T nt up) nc (y + 1)))) _ _ _ (by first | assumption | omega) (by
                    intro n hn2
                    by_cases d : n = y + 1
                    · subst d; simp [upd]
                    · simp only [upd, if_neg d]; exact ha n (by omega)) (by omega) hP hD hS (lv_sub hl [1, 2, 0] rfl)
          · skip
            have c7 := zb_0.mp c_17
            have e9 : rmN (RB nk nc fo th tg T nt up) nc (y + 1) = rmN (RB nk nc fo th tg T nt up) nc y + 1 := by simp only [rmN, ct]; simp [*]
            refine lv_iconst (v := 1) hx hb dX4_sweep_46 (by decide) ?_
            refine lv_goto (tgt := 51) hx hb dX4_sweep_47 (by decide) ?_
            refine lv_iadd hx hb dX4_sweep_51 ?_
            refine zz_top (y := nI ((rmN (RB nk nc fo th tg T nt up) nc y) + 1)) (nI_add _ _) ?_
            refine zz_top (y := nI (rmN (RB nk nc fo th tg T nt up) nc (y + 1))) (by first | (rw [e9]; done) | (rw [e9]; rfl)) ?_
            refine va_iast hx hb hK hP hD hS 13 0 rfl rfl (vp_in_nI (n := y + 1) (by omega) (by decide)) dX4_sweep_52 (fun H locs hP hD hS => ?_)
            rw [nI_clamp (n := y + 1) (by omega)] at hP hD
            have hP : va_P (dC, dI) vwCl (w4 b cI cZ 0 nk pa nc fo th tg nt tb te tk tt ex tc es wy ab re_n go be ++ [(q_11, .inl (cI, 49, .inl (upd ga (y + 1) (nI (rmN (RB nk nc fo th tg T nt up) nc (y + 1))))))]) H := hP
            have hD : va_D A (w4 b cI cZ 0 nk pa nc fo th tg nt tb te tk tt ex tc es wy ab re_n go be ++ [(q_11, .inl (cI, 49, .inl (upd ga (y + 1) (nI (rmN (RB nk nc fo th tg T nt up) nc (y + 1))))))]) := hD
            refine lv_iinc (v := nI (y + 1)) (lv' := [(2, .int (nI (y + 1))), (0, .ref (b 0)), (1, .ref q_11)]) hx hb dX4_sweep_53 hl (k := 2) rfl (zz_inc y 1) (by decide) rfl (fun ls hl => ?_)
            refine lv_goto (tgt := 16) hx hb dX4_sweep_56 (by decide) ?_
            exact ih_16 (y + 1) (upd ga (y + 1) (nI (rmN (RB nk nc fo th tg T nt up) nc (y + 1)))) _ _ _ (by first | assumption | omega) (by
                    intro n hn2
                    by_cases d : n = y + 1
                    · subst d; simp [upd]
                    · simp only [upd, if_neg d]; exact ha n (by omega)) (by omega) hP hD hS (lv_sub hl [1, 2, 0] rfl)
  exact J_16 _ 0 (fun _ => 0) _ _ _ (by first | assumption | omega) (by
          intro n hn2
          rw [show n = 0 from by omega]; rfl) (Nat.lt_succ_self _) hP hD hS (lv_sub hl [2, 1, 0] rfl)

set_option maxHeartbeats 4000000 in
set_option maxRecDepth 100000 in
theorem c_X4_run (l : Launch) (dC : Nat → ClassId) (dI : Nat → Nat → Nat) (cI cZ cJ : ClassId) (b : Nat → Nat) (tw : Int32) (nk : Nat) (pa : Nat → Int32) (nc : Nat) (fo : Nat → Int32) (th : Nat → Int32) (tg : Nat → Int32) (nt : Nat) (tb : Nat → Int32) (te : Nat → Int32) (tk : Nat → Int32) (tt : Nat → Int32) (ex : Int32) (tc : Int32) (es : Int32) (wy : Int64) (ab : Nat → Int32) (re : Nat → Int32) (go : Nat → Int32) (be : Nat → Int32) (ch : Int64) (mo : Int32) (T : Nat → Nat → Nat) (up : Nat → Nat → Bool) (sz : Nat) (hg : g4 nk ab up nt tb te tk tt T) (hc : okC nk nc fo th tg) : Met l yX4_run wsX4_run ({ frames := 2, cells := 0, slots := 0, locals := 44 } : Room) (va_Pc [.ref (b 0), .long ch, .int mo] (zWr (dC, dI) [(cI, .int), (cZ, .boolean), (cJ, .long)] (w4 b cI cZ tw nk pa nc fo th tg nt tb te tk tt ex tc es wy ab re go be) sz)) (va_Qi (fun (r : Int32) (u : Int32 × Int32 × Int32 × Int32 × Int64) => match u with | (tw9, ex9, tc9, es9, wy9) => (rOK ch mo = false ∧ tw9 = 1 ∧ ex9 = ex ∧ tc9 = tc ∧ es9 = es ∧ wy9 = wy) ∨ (rOK ch mo = true ∧ tw9 = 0 ∧ r = ouS nc (rnS nc (stS fo th tg nk T nt up) mo.toNatClampNeg ((0, ch.toInt.toNat, 0, 0, -1, 7) : RS)) ∧ ex9 = nI (rnS nc (stS fo th tg nk T nt up) mo.toNatClampNeg ((0, ch.toInt.toNat, 0, 0, -1, 7) : RS)).2.2.1 ∧ (tc9, es9, wy9) = (rnS nc (stS fo th tg nk T nt up) mo.toNatClampNeg ((0, ch.toInt.toNat, 0, 0, -1, 7) : RS)).2.2.2)) (fun u t => match u with | (tw9, ex9, tc9, es9, wy9) => zWo (dC, dI) [(cI, .int), (cZ, .boolean), (cJ, .long)] (w4 b cI cZ tw9 nk pa nc fo th tg nt tb te tk tt ex9 tc9 es9 wy9 ab re go be) (va_A (w4 b cI cZ tw nk pa nc fo th tg nt tb te tk tt ex tc es wy ab re go be) sz) t) (va_A (w4 b cI cZ tw nk pa nc fo th tg nt tb te tk tt ex tc es wy ab re go be) sz)) 0 0 (va_A (w4 b cI cZ tw nk pa nc fo th tg nt tb te tk tt ex tc es wy ab re go be) sz) := by
  refine Met.ofW (cc := cX4_run) (maxL := 12) (ret := (some .int)) (by decide) rfl ?_
  intro p e s m args below meth c s₁ B hml hv
  obtain ⟨hav, hsz, ⟨hP, hK, hn⟩, hD0⟩ := hv
  have hx := B.exec
  have hb := B.bytes
  have hr := B.returns
  have hts := atoms_spec (ws := wsX4_run) B.pre
  have hown : s.vm.findClass RX4 = some m.cls := findClass_of_methodNamed B.named
  have hlocks := B.notSynchronized
  subst hsz
  have hD := hD0.self (sz := s.heap.size)
  generalize hAe : (va_A (w4 b cI cZ tw nk pa nc fo th tg nt tb te tk tt ex tc es wy ab re go be) s.heap.size) = A at hD ⊢
  have hA : ∀ q : Nat, s.heap.size ≤ q → A q := fun q h => by rw [← hAe]; exact Or.inr h
  have hS : va_S A s.heap s.heap [] := va_S.rf
  generalize hQ : MQ below (va_Qi (fun (r : Int32) (u : Int32 × Int32 × Int32 × Int32 × Int64) => match u with | (tw9, ex9, tc9, es9, wy9) => (rOK ch mo = false ∧ tw9 = 1 ∧ ex9 = ex ∧ tc9 = tc ∧ es9 = es ∧ wy9 = wy) ∨ (rOK ch mo = true ∧ tw9 = 0 ∧ r = ouS nc (rnS nc (stS fo th tg nk T nt up) mo.toNatClampNeg ((0, ch.toInt.toNat, 0, 0, -1, 7) : RS)) ∧ ex9 = nI (rnS nc (stS fo th tg nk T nt up) mo.toNatClampNeg ((0, ch.toInt.toNat, 0, 0, -1, 7) : RS)).2.2.1 ∧ (tc9, es9, wy9) = (rnS nc (stS fo th tg nk T nt up) mo.toNatClampNeg ((0, ch.toInt.toNat, 0, 0, -1, 7) : RS)).2.2.2)) (fun u t => match u with | (tw9, ex9, tc9, es9, wy9) => zWo (dC, dI) [(cI, .int), (cZ, .boolean), (cJ, .long)] (w4 b cI cZ tw9 nk pa nc fo th tg nt tb te tk tt ex9 tc9 es9 wy9 ab re go be) A t) A) args s 0 0 A = Q
  refine W.eq (g2 := entryFrame m ([.ref (b 0), .long ch, .int mo] : List Value).toArray 12) (by rw [hav]) ?_
  have hl := lv_entry ([.ref (b 0), .long ch, .int mo]) (n := 12) (Nat.le_of_ble_eq_true rfl)
  rw [lg_entry_eq]
  generalize (lg_sl ([.ref (b 0), .long ch, .int mo]) ++ List.replicate (12 - (lg_sl ([.ref (b 0), .long ch, .int mo])).length) Slot.unset).toArray = ls at hl ⊢
  have hl : lv_has ls 12 [(0, .ref (b 0)), (1, .long ch), (3, .int mo)] := hl
  obtain ⟨H, hH⟩ : ∃ H, H = s.heap := ⟨_, rfl⟩
  obtain ⟨locs, hlo⟩ : ∃ q : List Loc, q = [] := ⟨_, rfl⟩
  have hP : va_P (dC, dI) vwCl (w4 b cI cZ tw nk pa nc fo th tg nt tb te tk tt ex tc es wy ab re go be) H := by rw [hH]; exact hP
  have hS : va_S A s.heap H locs := by rw [hH, hlo]; exact hS
  refine zz_hl hH hlo ?_
  obtain ⟨hk01, hk8, hnt, hT, hO, hF, hU⟩ := id hg
  obtain ⟨hnc, hC⟩ := id hc
  refine lv_aload_n hx hb dX4_run_0 rfl (lv_at hl 0 rfl) ?_
  refine lv_iconst (v := 0) hx hb dX4_run_1 (by decide) ?_
  refine va_put (D := (dC, dI)) (ci := 4) (v := .int 0) (ty := .int) (C := RX4) (T := TX4) (N := 20) hx hb hts (by decide +kernel) tyX4 tyX4_ok nmX4 hown hK hP hD hS 0 rfl rfl 0 (by decide) (hts (.fieldLink RX4 54 "HandlerOptimizerModel" "thrown" "I") (by decide +kernel)) (fun _ h9 => h9) rfl (by decide +kernel) rfl rfl (Nat.le_of_ble_eq_true rfl) dX4_run_2 (fun H locs hP hD hS => ?_)
  have hP : va_P (dC, dI) vwCl (w4 b cI cZ 0 nk pa nc fo th tg nt tb te tk tt ex tc es wy ab re go be) H := hP
  have hD : va_D A (w4 b cI cZ 0 nk pa nc fo th tg nt tb te tk tt ex tc es wy ab re go be) := hD
  refine lv_lload_n hx hb dX4_run_5 rfl (lv_at hl 1 rfl) ?_
  refine lv_lconst (v := 0) hx hb dX4_run_6 (by decide) ?_
  refine W.lcmp hx hb dX4_run_7 ?_
  refine lv_if_lt (tgt := 22) hx hb dX4_run_8 (by decide) (fun c_1 => ?_) (fun c_1 => ?_)
  · skip
    have c9 : rOK ch mo = false := by simp only [rOK]; rw [decide_eq_true (lg_lt0.mp c_1)]; rfl
    refine lv_aload_n hx hb dX4_run_22 rfl (lv_at hl 0 rfl) ?_
    refine lv_iconst (v := 1) hx hb dX4_run_23 (by decide) ?_
    have hDc := hD
    have hFc := va_free (wc := w4 b cI cZ 0 nk pa nc fo th tg nt tb te tk tt ex tc es wy ab re go be) hD hS hA [0, 1, 2, 3, 4, 5, 6, 7, 8, 9, 10, 11, 12] rfl
    refine va_calli (va_runV (As := [.int 1]) (rest := []) ⟨hx, hb, hml, hown, hts⟩ (c_X4_no l dC dI cI cZ cJ b 0 nk pa nc fo th tg nt tb te tk tt ex tc es wy ab re go be 1 H.size ) (cwV 1 hts gX4_run_X4_no rfl rfl rfl (by decide +kernel) ⟨Nat.le_of_ble_eq_true rfl, Nat.le_of_ble_eq_true rfl⟩) ⟨zWr_blind, va_recv hK hP (ci := 4) (q0 := 0) rfl rfl, zWr_at hP hK hn (hDc.weaken (fun _ _ _ _ => trivial))⟩ rfl rfl hl.1 rfl (lv_room (Nat.le_of_ble_eq_true rfl)) dX4_run_24 ⟨Nat.le_of_ble_eq_true rfl, Nat.le_of_ble_eq_true rfl⟩) hS (fun q _ h => hFc q h) hFc (fun r_2 u_9 t H1 locs ht hvm hw hB hz1 hk1 hS => ?_)
    obtain ⟨hP1, -, hD1⟩ := hB
    rw [ht] at hP1
    obtain ⟨hP, hD⟩ := va_join (wr := []) (w1 := w4 b cI cZ 1 nk pa nc fo th tg nt tb te tk tt ex tc es wy ab re go be) hP hD [0, 1, 2, 3, 4, 5, 6, 7, 8, 9, 10, 11, 12] [] rfl rfl (by decide) (by decide) hk1 hFc hP1 hD1
    generalize H1 = H at hP hS ⊢
    have hP : va_P (dC, dI) vwCl (w4 b cI cZ 1 nk pa nc fo th tg nt tb te tk tt ex tc es wy ab re go be) H := hP
    have hD : va_D A (w4 b cI cZ 1 nk pa nc fo th tg nt tb te tk tt ex tc es wy ab re go be) := hD
    subst hw
    rw [← hQ]
    have hP9 := hP
    have hD9 := hD
    exact W.iret (v := 0) hx hb hr (fun t ht hW => ⟨⟨0, (1, ex, tc, es, wy), rfl, (Or.inl ⟨c9, rfl, rfl, rfl, rfl, rfl⟩), (by rw [ht]; exact hP9), va_K.moved hW.alike hK, hD9⟩, hS.F ht⟩) hS.2.2 dX4_run_27
  · skip
    have c1 : ¬ ch < 0 := fun q => c_1 (lg_lt0.mpr q)
    refine lv_iload_n hx hb dX4_run_11 rfl (lv_at hl 2 rfl) ?_
    refine lv_iconst (v := 0) hx hb dX4_run_12 (by decide) ?_
    refine lv_sipush (v := 500) hx hb dX4_run_13 (by decide) ?_
    have hPc : va_P (dC, dI) vwCl [] H := fun k q h => by simp at h
    refine va_calli (va_runS (As := [.int mo, .int 0, .int 500]) (rest := []) ⟨hx, hb, hml, hown, hts⟩ (c_X4_isIn l dC dI cI cZ cJ mo 0 500 ) (va_cwS 3 hts gX4_run_X4_isIn rfl rfl rfl (by decide +kernel) ⟨Nat.le_of_ble_eq_true rfl, Nat.le_of_ble_eq_true rfl⟩) ⟨zPre_blind, zPre_at hPc hK hn⟩ rfl rfl hl.1 rfl (lv_room (Nat.le_of_ble_eq_true rfl)) dX4_run_16 ⟨Nat.le_of_ble_eq_true rfl, Nat.le_of_ble_eq_true rfl⟩) hS (fun _ _ h => h.elim) (fun _ h => h.elim) (fun r_3 u_9 t H locs ht hvm hw hB hz1 hk1 hS => ?_)
    have hP := zkeep hP hk1
    subst hw
    refine lv_if_ne (tgt := 28) hx hb dX4_run_19 (by decide) (fun c_4 => ?_) (fun c_4 => ?_)
    · skip
      have c13 := zb_1.mp c_4
      have hok : rOK ch mo = true := by simp only [rOK, Bool.and_assoc]; rw [c13, decide_eq_false c1]; rfl
      have c2 : ¬ mo < 0 := fun q => by rw [decide_eq_true q] at c13; cases c13
      have c3 : ¬ 500 < mo := fun q => by rw [decide_eq_true q, Bool.and_comm] at c13; cases c13
      obtain ⟨X0, hX0, rfl, hX0e⟩ := lN_of c1
      obtain ⟨M, hM, rfl⟩ := nI_of c2
      have hM5 : M ≤ 500 := by
        rcases Nat.lt_or_ge 500 M with q | q
        · exact absurd ((nI_ltI (a := 500) (by omega) hM).mpr q) c3
        · exact q
      rw [← hX0e, nI_clamp hM] at hQ
      refine lv_aload_n hx hb dX4_run_28 rfl (lv_at hl 0 rfl) ?_
      refine lv_iconst (v := 0) hx hb dX4_run_29 (by decide) ?_
      refine va_put (D := (dC, dI)) (ci := 4) (v := .int 0) (ty := .int) (C := RX4) (T := TX4) (N := 20) hx hb hts (by decide +kernel) tyX4 tyX4_ok nmX4 hown hK hP hD hS 0 rfl rfl 12 (by decide) (hts (.fieldLink RX4 156 "HandlerOptimizerModel" "executed" "I") (by decide +kernel)) (fun _ h9 => h9) rfl (by decide +kernel) rfl rfl (Nat.le_of_ble_eq_true rfl) dX4_run_30 (fun H locs hP hD hS => ?_)
      have hP : va_P (dC, dI) vwCl (w4 b cI cZ 0 nk pa nc fo th tg nt tb te tk tt 0 tc es wy ab re go be) H := hP
      have hD : va_D A (w4 b cI cZ 0 nk pa nc fo th tg nt tb te tk tt 0 tc es wy ab re go be) := hD
      refine lv_aload_n hx hb dX4_run_33 rfl (lv_at hl 0 rfl) ?_
      refine lv_iconst (v := 0) hx hb dX4_run_34 (by decide) ?_
      refine va_put (D := (dC, dI)) (ci := 4) (v := .int 0) (ty := .int) (C := RX4) (T := TX4) (N := 20) hx hb hts (by decide +kernel) tyX4 tyX4_ok nmX4 hown hK hP hD hS 0 rfl rfl 13 (by decide) (hts (.fieldLink RX4 159 "HandlerOptimizerModel" "taken" "I") (by decide +kernel)) (fun _ h9 => h9) rfl (by decide +kernel) rfl rfl (Nat.le_of_ble_eq_true rfl) dX4_run_35 (fun H locs hP hD hS => ?_)
      have hP : va_P (dC, dI) vwCl (w4 b cI cZ 0 nk pa nc fo th tg nt tb te tk tt 0 0 es wy ab re go be) H := hP
      have hD : va_D A (w4 b cI cZ 0 nk pa nc fo th tg nt tb te tk tt 0 0 es wy ab re go be) := hD
      refine lv_aload_n hx hb dX4_run_38 rfl (lv_at hl 0 rfl) ?_
      refine lv_iconst (v := -1) hx hb dX4_run_39 (by decide) ?_
      refine va_put (D := (dC, dI)) (ci := 4) (v := .int (-1)) (ty := .int) (C := RX4) (T := TX4) (N := 20) hx hb hts (by decide +kernel) tyX4 tyX4_ok nmX4 hown hK hP hD hS 0 rfl rfl 14 (by decide) (hts (.fieldLink RX4 38 "HandlerOptimizerModel" "escaped" "I") (by decide +kernel)) (fun _ h9 => h9) rfl (by decide +kernel) rfl rfl (Nat.le_of_ble_eq_true rfl) dX4_run_40 (fun H locs hP hD hS => ?_)
      have hP : va_P (dC, dI) vwCl (w4 b cI cZ 0 nk pa nc fo th tg nt tb te tk tt 0 0 (-1) wy ab re go be) H := hP
      have hD : va_D A (w4 b cI cZ 0 nk pa nc fo th tg nt tb te tk tt 0 0 (-1) wy ab re go be) := hD
      refine lv_aload_n hx hb dX4_run_43 rfl (lv_at hl 0 rfl) ?_
      refine lv_ldc2 (own := RX4) (v := 7) hx hb hown (hts (.constantLong RX4 162 7) (by decide +kernel)) dX4_run_44 ?_
      refine va_put (D := (dC, dI)) (ci := 4) (v := .long 7) (ty := .long) (C := RX4) (T := TX4) (N := 20) hx hb hts (by decide +kernel) tyX4 tyX4_ok nmX4 hown hK hP hD hS 0 rfl rfl 15 (by decide) (hts (.fieldLink RX4 164 "HandlerOptimizerModel" "way" "J") (by decide +kernel)) (fun _ h9 => h9) rfl (by decide +kernel) rfl rfl (Nat.le_of_ble_eq_true rfl) dX4_run_47 (fun H locs hP hD hS => ?_)
      have hP : va_P (dC, dI) vwCl (w4 b cI cZ 0 nk pa nc fo th tg nt tb te tk tt 0 0 (-1) 7 ab re go be) H := hP
      have hD : va_D A (w4 b cI cZ 0 nk pa nc fo th tg nt tb te tk tt 0 0 (-1) 7 ab re go be) := hD
      refine lv_lload_n hx hb dX4_run_50 rfl (lv_at hl 1 rfl) ?_
      refine lv_lstore (lv' := [(4, .long (lN X0)), (0, .ref (b 0)), (1, .long (lN X0)), (3, .int (nI M))]) hx hb dX4_run_51 hl (by decide) rfl (fun ls hl => ?_)
      refine lv_iconst (v := 0) hx hb dX4_run_53 (by decide) ?_
      refine lv_istore (lv' := [(6, .int 0), (4, .long (lN X0)), (0, .ref (b 0)), (1, .long (lN X0)), (3, .int (nI M))]) hx hb dX4_run_54 hl (by decide) rfl (fun ls hl => ?_)
      have J_56 : ∀ (n9 : Nat) (y : Nat) (gat : Int32) (gX : Nat) (gex : Int32) (gtc : Int32) (gwy : Int64) (H : Heap) (locs : List Loc) (ls : Array Slot), (y ≤ M) → (gX < 2 ^ 63) → (gex = nI y) → (rnS nc (stS fo th tg nk T nt up) M ((0, X0, 0, 0, -1, 7) : RS) = rnS nc (stS fo th tg nk T nt up) (M - y) ((gat, gX, y, gtc, -1, gwy) : RS)) → M + 1 - y < n9 → va_P (dC, dI) vwCl (w4 b cI cZ 0 nk pa nc fo th tg nt tb te tk tt gex gtc (-1) gwy ab re go be) H → va_D A (w4 b cI cZ 0 nk pa nc fo th tg nt tb te tk tt gex gtc (-1) gwy ab re go be) → va_S A s.heap H locs → lv_has ls 12 [(0, .ref (b 0)), (1, .long (lN X0)), (3, .int (nI M)), (4, .long (lN gX)), (6, .int gat)] → W p l e (headSpec wsX4_run ({ frames := 2, cells := 0, slots := 0, locals := 44 } : Room)).room s m args below meth c H locs 0 0 Q (F0 m 56 ls []) := by
        intro n9
        induction n9 with
        | zero => intro y gat gX gex gtc gwy H locs ls hy hX hex hq hmu; exact absurd hmu (Nat.not_lt_zero _)
        | succ n9 ih_56 =>
          intro y gat gX gex gtc gwy H locs ls hy hX hex hq hmu hP hD hS hl
          refine lv_aload_n hx hb dX4_run_56 rfl (lv_at hl 0 rfl) ?_
          refine lv_iload hx hb dX4_run_57 (lv_at hl 4 rfl) ?_
          refine va_calli (va_runV (As := [.int gat]) (rest := []) ⟨hx, hb, hml, hown, hts⟩ (c_X4_isInstruction l dC dI cI cZ cJ b 0 nk pa nc fo th tg nt tb te tk tt gex gtc (-1) gwy ab re go be gat (by omega)) (cwV 1 hts gX4_run_X4_isInstruction rfl rfl rfl (by decide +kernel) ⟨Nat.le_of_ble_eq_true rfl, Nat.le_of_ble_eq_true rfl⟩) ⟨zPre_blind, va_recv hK hP (ci := 4) (q0 := 0) rfl rfl, zPre_at hP hK hn⟩ rfl rfl hl.1 rfl (lv_room (Nat.le_of_ble_eq_true rfl)) dX4_run_59 ⟨Nat.le_of_ble_eq_true rfl, Nat.le_of_ble_eq_true rfl⟩) hS (fun _ _ h => h.elim) (fun _ h => h.elim) (fun r_5 u_9 t H locs ht hvm hw hB hz1 hk1 hS => ?_)
          have hP := zkeep hP hk1
          subst hw
          refine lv_if_eq (tgt := 338) hx hb dX4_run_62 (by decide) (fun c_6 => ?_) (fun c_6 => ?_)
          · skip
            have c9 := zb_0.mp c_6
            have hend : rnS nc (stS fo th tg nk T nt up) M ((0, X0, 0, 0, -1, 7) : RS) = ((gat, gX, y, gtc, -1, gwy) : RS) := hq.trans (rnS_0 c9)
            refine lv_iconst (v := 0) hx hb dX4_run_338 (by decide) ?_
            rw [← hQ]
            have hP9 := hP
            have hD9 := hD
            exact W.iret (v := 0) hx hb hr (fun t ht hW => ⟨⟨0, (0, gex, gtc, (-1), gwy), rfl, (by rw [hend]; exact Or.inr ⟨hok, rfl, by simp [ouS, c9], hex, rfl⟩), (by rw [ht]; exact hP9), va_K.moved hW.alike hK, hD9⟩, hS.F ht⟩) hS.2.2 dX4_run_339
          · skip
            have c9 := zb_1.mp c_6
            obtain ⟨i, hi, rfl⟩ := hasI_at (by omega) c9
            have hm0 : 0 < noN (fo i) + bc (th i) := opN_pos hc hk8 hi
            have hm1 := noN_le (fo i)
            have hm2 := bc_le (th i)
            obtain ⟨gX9, hgX9⟩ : ∃ q, q = gX / (noN (fo i) + bc (th i)) := ⟨_, rfl⟩
            have hoX2 : gX / (noN (fo i) + bc (th i)) = gX9 := hgX9.symm
            obtain ⟨o9, ho9e⟩ : ∃ q, q = gX % (noN (fo i) + bc (th i)) := ⟨_, rfl⟩
            have hoX1 : gX % (noN (fo i) + bc (th i)) = o9 := ho9e.symm
            have hmod : o9 < noN (fo i) + bc (th i) := by rw [ho9e]; exact Nat.mod_lt _ hm0
            have hX9 : gX9 < 2 ^ 63 := by rw [hgX9]; have := Nat.div_le_self gX (noN (fo i) + bc (th i)); omega
            refine lv_aload_n hx hb dX4_run_65 rfl (lv_at hl 0 rfl) ?_
            refine va_get (D := (dC, dI)) (ci := 4) (v := .int gex) (C := RX4) (T := TX4) (N := 20) hx hb hts (by decide +kernel) hown hK hP 0 rfl rfl 12 (by decide) (hts (.fieldLink RX4 156 "HandlerOptimizerModel" "executed" "I") (by decide +kernel)) (fun _ h9 => h9) rfl dX4_run_66 ?_
            refine lv_iload_n hx hb dX4_run_69 rfl (lv_at hl 2 rfl) ?_
            refine lv_icmp_ne (tgt := 75) hx hb dX4_run_70 (by decide) (fun c_7 => ?_) (fun c_7 => ?_)
            · skip
              have hyM : y < M := by
                rcases Nat.lt_or_ge y M with q | q
                · exact q
                · exact absurd (by rw [hex, show y = M from by omega]) c_7
              refine lv_aload_n hx hb dX4_run_75 rfl (lv_at hl 0 rfl) ?_
              refine lv_dup hx hb dX4_run_76 rfl ?_
              refine va_get (D := (dC, dI)) (ci := 4) (v := .int gex) (C := RX4) (T := TX4) (N := 20) hx hb hts (by decide +kernel) hown hK hP 0 rfl rfl 12 (by decide) (hts (.fieldLink RX4 156 "HandlerOptimizerModel" "executed" "I") (by decide +kernel)) (fun _ h9 => h9) rfl dX4_run_77 ?_
              refine lv_iconst (v := 1) hx hb dX4_run_80 (by decide) ?_
              refine lv_iadd hx hb dX4_run_81 ?_
              refine va_put (D := (dC, dI)) (ci := 4) (v := .int (gex + 1)) (ty := .int) (C := RX4) (T := TX4) (N := 20) hx hb hts (by decide +kernel) tyX4 tyX4_ok nmX4 hown hK hP hD hS 0 rfl rfl 12 (by decide) (hts (.fieldLink RX4 156 "HandlerOptimizerModel" "executed" "I") (by decide +kernel)) (fun _ h9 => h9) rfl (by decide +kernel) rfl rfl (Nat.le_of_ble_eq_true rfl) dX4_run_82 (fun H locs hP hD hS => ?_)
              have hP : va_P (dC, dI) vwCl (w4 b cI cZ 0 nk pa nc fo th tg nt tb te tk tt (gex + 1) gtc (-1) gwy ab re go be) H := hP
              have hD : va_D A (w4 b cI cZ 0 nk pa nc fo th tg nt tb te tk tt (gex + 1) gtc (-1) gwy ab re go be) := hD
              refine lv_aload_n hx hb dX4_run_85 rfl (lv_at hl 0 rfl) ?_
              refine lv_aload_n hx hb dX4_run_86 rfl (lv_at hl 0 rfl) ?_
              refine va_get (D := (dC, dI)) (ci := 4) (v := .long gwy) (C := RX4) (T := TX4) (N := 20) hx hb hts (by decide +kernel) hown hK hP 0 rfl rfl 15 (by decide) (hts (.fieldLink RX4 164 "HandlerOptimizerModel" "way" "J") (by decide +kernel)) (fun _ h9 => h9) rfl dX4_run_87 ?_
              refine lv_ldc2 (own := RX4) (v := 31) hx hb hown (hts (.constantLong RX4 168 31) (by decide +kernel)) dX4_run_90 ?_
              refine lv_lmul hx hb dX4_run_93 ?_
              refine lv_aload_n hx hb dX4_run_94 rfl (lv_at hl 0 rfl) ?_
              refine va_get (D := (dC, dI)) (ci := 4) (v := .ref (b 2)) (C := RX4) (T := TX4) (N := 20) hx hb hts (by decide +kernel) hown hK hP 0 rfl rfl 4 (by decide) (hts (.fieldLink RX4 17 "HandlerOptimizerModel" "forms" "[I") (by decide +kernel)) (fun _ h9 => h9) rfl dX4_run_95 ?_
              refine lv_iload hx hb dX4_run_98 (lv_at hl 4 rfl) ?_
              refine va_iald hx hb hK hP 2 0 rfl rfl (vp_in_nI (n := i) (by omega) (by decide)) dX4_run_100 ?_
              refine zz_top (y := fo i) (congrArg _ (nI_clamp (by omega))) ?_
              refine lv_i2l (v := (fo i).toInt64) hx hb dX4_run_101 rfl ?_
              refine lv_ladd hx hb dX4_run_102 ?_
              refine va_put (D := (dC, dI)) (ci := 4) (v := .long ((gwy * 31) + ((fo i).toInt64))) (ty := .long) (C := RX4) (T := TX4) (N := 20) hx hb hts (by decide +kernel) tyX4 tyX4_ok nmX4 hown hK hP hD hS 0 rfl rfl 15 (by decide) (hts (.fieldLink RX4 164 "HandlerOptimizerModel" "way" "J") (by decide +kernel)) (fun _ h9 => h9) rfl (by decide +kernel) rfl rfl (Nat.le_of_ble_eq_true rfl) dX4_run_103 (fun H locs hP hD hS => ?_)
              have hP : va_P (dC, dI) vwCl (w4 b cI cZ 0 nk pa nc fo th tg nt tb te tk tt (gex + 1) gtc (-1) ((gwy * 31) + ((fo i).toInt64)) ab re go be) H := hP
              have hD : va_D A (w4 b cI cZ 0 nk pa nc fo th tg nt tb te tk tt (gex + 1) gtc (-1) ((gwy * 31) + ((fo i).toInt64)) ab re go be) := hD
              refine lv_aload_n hx hb dX4_run_106 rfl (lv_at hl 0 rfl) ?_
              refine va_get (D := (dC, dI)) (ci := 4) (v := .ref (b 2)) (C := RX4) (T := TX4) (N := 20) hx hb hts (by decide +kernel) hown hK hP 0 rfl rfl 4 (by decide) (hts (.fieldLink RX4 17 "HandlerOptimizerModel" "forms" "[I") (by decide +kernel)) (fun _ h9 => h9) rfl dX4_run_107 ?_
              refine lv_iload hx hb dX4_run_110 (lv_at hl 4 rfl) ?_
              refine va_iald hx hb hK hP 2 0 rfl rfl (vp_in_nI (n := i) (by omega) (by decide)) dX4_run_112 ?_
              refine zz_top (y := fo i) (congrArg _ (nI_clamp (by omega))) ?_
              refine lv_iconst (v := 3) hx hb dX4_run_113 (by decide) ?_
              refine lv_icmp_ne (tgt := 119) hx hb dX4_run_114 (by decide) (fun c_8 => ?_) (fun c_8 => ?_)
              · skip
                have c7 := c_8
                refine lv_aload_n hx hb dX4_run_119 rfl (lv_at hl 0 rfl) ?_
                refine va_get (D := (dC, dI)) (ci := 4) (v := .ref (b 2)) (C := RX4) (T := TX4) (N := 20) hx hb hts (by decide +kernel) hown hK hP 0 rfl rfl 4 (by decide) (hts (.fieldLink RX4 17 "HandlerOptimizerModel" "forms" "[I") (by decide +kernel)) (fun _ h9 => h9) rfl dX4_run_120 ?_
                refine lv_iload hx hb dX4_run_123 (lv_at hl 4 rfl) ?_
                refine va_iald hx hb hK hP 2 0 rfl rfl (vp_in_nI (n := i) (by omega) (by decide)) dX4_run_125 ?_
                refine zz_top (y := fo i) (congrArg _ (nI_clamp (by omega))) ?_
                refine lv_iconst (v := 4) hx hb dX4_run_126 (by decide) ?_
                refine lv_icmp_ne (tgt := 134) hx hb dX4_run_127 (by decide) (fun c_9 => ?_) (fun c_9 => ?_)
                · skip
                  have c5 := c_9
                  refine lv_aload_n hx hb dX4_run_134 rfl (lv_at hl 0 rfl) ?_
                  refine va_get (D := (dC, dI)) (ci := 4) (v := .ref (b 2)) (C := RX4) (T := TX4) (N := 20) hx hb hts (by decide +kernel) hown hK hP 0 rfl rfl 4 (by decide) (hts (.fieldLink RX4 17 "HandlerOptimizerModel" "forms" "[I") (by decide +kernel)) (fun _ h9 => h9) rfl dX4_run_135 ?_
                  refine lv_iload hx hb dX4_run_138 (lv_at hl 4 rfl) ?_
                  refine va_iald hx hb hK hP 2 0 rfl rfl (vp_in_nI (n := i) (by omega) (by decide)) dX4_run_140 ?_
                  refine zz_top (y := fo i) (congrArg _ (nI_clamp (by omega))) ?_
                  refine lv_iconst (v := 2) hx hb dX4_run_141 (by decide) ?_
                  refine lv_icmp_ne (tgt := 149) hx hb dX4_run_142 (by decide) (fun c_10 => ?_) (fun c_10 => ?_)
                  · skip
                    have c6 : (1 : Int32) = nI (noN (fo i)) := by rw [show noN (fo i) = 1 from by simp [noN, c_10, c5]]; rfl
                    refine lv_iconst (v := 1) hx hb dX4_run_149 (by decide) ?_
                    refine zz_top (y := nI (noN (fo i))) c6 ?_
                    refine lv_istore (lv' := [(7, .int (nI (noN (fo i)))), (0, .ref (b 0)), (1, .long (lN X0)), (3, .int (nI M)), (4, .long (lN gX)), (6, .int (nI i))]) hx hb dX4_run_150 hl (by decide) rfl (fun ls hl => ?_)
                    refine lv_iload hx hb dX4_run_152 (lv_at hl 0 rfl) ?_
                    refine lv_aload_n hx hb dX4_run_154 rfl (lv_at hl 1 rfl) ?_
                    refine va_get (D := (dC, dI)) (ci := 4) (v := .ref (b 3)) (C := RX4) (T := TX4) (N := 20) hx hb hts (by decide +kernel) hown hK hP 0 rfl rfl 5 (by decide) (hts (.fieldLink RX4 20 "HandlerOptimizerModel" "errors" "[I") (by decide +kernel)) (fun _ h9 => h9) rfl dX4_run_155 ?_
                    refine lv_iload hx hb dX4_run_158 (lv_at hl 5 rfl) ?_
                    refine va_iald hx hb hK hP 3 0 rfl rfl (vp_in_nI (n := i) (by omega) (by decide)) dX4_run_160 ?_
                    refine zz_top (y := th i) (congrArg _ (nI_clamp (by omega))) ?_
                    have hPc : va_P (dC, dI) vwCl [] H := fun k q h => by simp at h
                    refine va_calli (va_runS (As := [.int (th i)]) (rest := [.int (nI (noN (fo i)))]) ⟨hx, hb, hml, hown, hts⟩ (c_J6_bitCount_0f7a4 l dC dI cI cZ cJ (th i) ((hC i hi).2.1)) (va_cwS 1 hts gX4_run_J6_bitCount_0f7a4 rfl rfl rfl (by decide +kernel) ⟨Nat.le_of_ble_eq_true rfl, Nat.le_of_ble_eq_true rfl⟩) ⟨zPre_blind, zPre_at hPc hK hn⟩ rfl rfl hl.1 rfl (lv_room (Nat.le_of_ble_eq_true rfl)) dX4_run_161 ⟨Nat.le_of_ble_eq_true rfl, Nat.le_of_ble_eq_true rfl⟩) hS (fun _ _ h => h.elim) (fun _ h => h.elim) (fun r_11 u_9 t H locs ht hvm hw hB hz1 hk1 hS => ?_)
                    have hP := zkeep hP hk1
                    subst hw
                    refine lv_iadd hx hb dX4_run_164 ?_
                    refine zz_top (y := nI ((noN (fo i)) + (bc (th i)))) (nI_add _ _) ?_
                    refine lv_istore (lv' := [(8, .int (nI ((noN (fo i)) + (bc (th i))))), (7, .int (nI (noN (fo i)))), (0, .ref (b 0)), (1, .long (lN X0)), (3, .int (nI M)), (4, .long (lN gX)), (6, .int (nI i))]) hx hb dX4_run_165 hl (by decide) rfl (fun ls hl => ?_)
                    refine lv_lload hx hb dX4_run_167 (lv_at hl 5 rfl) ?_
                    refine lv_iload hx hb dX4_run_169 (lv_at hl 0 rfl) ?_
                    refine lv_i2l (v := (nI ((noN (fo i)) + (bc (th i)))).toInt64) hx hb dX4_run_171 rfl ?_
                    refine zz_topl (y := lN (noN (fo i) + bc (th i))) (nI_l (by omega)) ?_
                    refine lv_lrem hx hb dX4_run_172 (lN_ne0 hm0 (by omega)) ?_
                    refine zz_topl (y := lN o9) (by rw [ho9e]; exact pk_lRem hX hm0 (by omega)) ?_
                    refine lv_l2i (v := (lN o9).toInt32) hx hb dX4_run_173 rfl ?_
                    refine zz_top (y := nI o9) (lN_i _) ?_
                    refine lv_istore (lv' := [(9, .int (nI o9)), (8, .int (nI ((noN (fo i)) + (bc (th i))))), (7, .int (nI (noN (fo i)))), (0, .ref (b 0)), (1, .long (lN X0)), (3, .int (nI M)), (4, .long (lN gX)), (6, .int (nI i))]) hx hb dX4_run_174 hl (by decide) rfl (fun ls hl => ?_)
                    refine lv_lload hx hb dX4_run_176 (lv_at hl 6 rfl) ?_
                    refine lv_iload hx hb dX4_run_178 (lv_at hl 1 rfl) ?_
                    refine lv_i2l (v := (nI ((noN (fo i)) + (bc (th i)))).toInt64) hx hb dX4_run_180 rfl ?_
                    refine zz_topl (y := lN (noN (fo i) + bc (th i))) (nI_l (by omega)) ?_
                    refine lv_ldiv hx hb dX4_run_181 (lN_ne0 hm0 (by omega)) ?_
                    refine zz_topl (y := lN gX9) (by rw [hgX9]; exact pk_lDiv hX hm0 (by omega)) ?_
                    refine lv_lstore (lv' := [(4, .long (lN gX9)), (9, .int (nI o9)), (8, .int (nI ((noN (fo i)) + (bc (th i))))), (7, .int (nI (noN (fo i)))), (0, .ref (b 0)), (1, .long (lN X0)), (3, .int (nI M)), (6, .int (nI i))]) hx hb dX4_run_182 hl (by decide) rfl (fun ls hl => ?_)
                    refine lv_iload hx hb dX4_run_184 (lv_at hl 1 rfl) ?_
                    refine lv_iload hx hb dX4_run_186 (lv_at hl 3 rfl) ?_
                    refine lv_icmp_ge (tgt := 227) hx hb dX4_run_188 (by decide) (fun c_12 => ?_) (fun c_12 => ?_)
                    · skip
                      have c4 := (zz_get (a := o9) (b := noN (fo i)) (by omega) (by omega)).mp c_12
                      obtain ⟨j0, hj0⟩ : ∃ q, q = o9 - noN (fo i) := ⟨_, rfl⟩
                      have hjb : j0 < bc (th i) := by omega
                      refine lv_iconst (v := -1) hx hb dX4_run_227 (by decide) ?_
                      refine zz_top (y := nI 0 - 1) (by decide) ?_
                      refine lv_istore (lv' := [(10, .int (nI 0 - 1)), (4, .long (lN gX9)), (9, .int (nI o9)), (8, .int (nI ((noN (fo i)) + (bc (th i))))), (7, .int (nI (noN (fo i)))), (0, .ref (b 0)), (1, .long (lN X0)), (3, .int (nI M)), (6, .int (nI i))]) hx hb dX4_run_228 hl (by decide) rfl (fun ls hl => ?_)
                      refine lv_iload hx hb dX4_run_230 (lv_at hl 2 rfl) ?_
                      refine lv_iload hx hb dX4_run_232 (lv_at hl 4 rfl) ?_
                      refine lv_isub hx hb dX4_run_234 ?_
                      refine zz_top (y := nI (j0 + 1) - 1) (by rw [nI_pred, hj0]; exact zz_subn (by omega)) ?_
                      refine lv_istore (lv' := [(11, .int (nI (j0 + 1) - 1)), (10, .int (nI 0 - 1)), (4, .long (lN gX9)), (9, .int (nI o9)), (8, .int (nI ((noN (fo i)) + (bc (th i))))), (7, .int (nI (noN (fo i)))), (0, .ref (b 0)), (1, .long (lN X0)), (3, .int (nI M)), (6, .int (nI i))]) hx hb dX4_run_235 hl (by decide) rfl (fun ls hl => ?_)
                      have J_237 : ∀ (n9 : Nat) (l9 : Nat) (k9 : Nat) (H : Heap) (locs : List Loc) (ls : Array Slot), (l9 ≤ j0 + 1) → (k9 ≤ 8) → (ct (bt (th i)) k9 = j0 + 1 - l9) → (l9 ≤ j0 → 0 < k9 ∧ bt (th i) (k9 - 1) = true) → l9 < n9 → va_P (dC, dI) vwCl (w4 b cI cZ 0 nk pa nc fo th tg nt tb te tk tt (gex + 1) gtc (-1) ((gwy * 31) + ((fo i).toInt64)) ab re go be) H → va_D A (w4 b cI cZ 0 nk pa nc fo th tg nt tb te tk tt (gex + 1) gtc (-1) ((gwy * 31) + ((fo i).toInt64)) ab re go be) → va_S A s.heap H locs → lv_has ls 12 [(0, .ref (b 0)), (1, .long (lN X0)), (3, .int (nI M)), (4, .long (lN gX9)), (6, .int (nI i)), (10, .int (nI k9 - 1)), (11, .int (nI l9 - 1))] → W p l e (headSpec wsX4_run ({ frames := 2, cells := 0, slots := 0, locals := 44 } : Room)).room s m args below meth c H locs 0 0 Q (F0 m 237 ls []) := by
                        intro n9
                        induction n9 with
                        | zero => intro l9 k9 H locs ls hl9 hk9 hct hlast hmu; exact absurd hmu (Nat.not_lt_zero _)
                        | succ n9 ih_237 =>
                          intro l9 k9 H locs ls hl9 hk9 hct hlast hmu hP hD hS hl
                          refine lv_iload hx hb dX4_run_237 (lv_at hl 6 rfl) ?_
                          refine lv_if_lt (tgt := 272) hx hb dX4_run_239 (by decide) (fun c_13 => ?_) (fun c_13 => ?_)
                          · skip
                            have c1 := zz_cdt (by omega) c_13
                            obtain ⟨h10, h11⟩ := hlast (by omega)
                            have hkn : k9 - 1 < nk := by
                              rcases Nat.lt_or_ge (k9 - 1) nk with q | q
                              · exact q
                              · rw [(hC i hi).2.2.1 (k9 - 1) q (by omega)] at h11; cases h11
                            have hkO := kO_at h10 h11 (by rw [hct]; omega : ct (bt (th i)) k9 = j0 + 1) hkn
                            rw [hkO] at hl
                            have hkl : kO (bt (th i)) nk j0 < nk := kO_lt hk01
                            refine lv_aload_n hx hb dX4_run_272 rfl (lv_at hl 0 rfl) ?_
                            refine lv_aload_n hx hb dX4_run_273 rfl (lv_at hl 0 rfl) ?_
                            refine va_get (D := (dC, dI)) (ci := 4) (v := .long ((gwy * 31) + ((fo i).toInt64))) (C := RX4) (T := TX4) (N := 20) hx hb hts (by decide +kernel) hown hK hP 0 rfl rfl 15 (by decide) (hts (.fieldLink RX4 164 "HandlerOptimizerModel" "way" "J") (by decide +kernel)) (fun _ h9 => h9) rfl dX4_run_274 ?_
                            refine lv_ldc2 (own := RX4) (v := 31) hx hb hown (hts (.constantLong RX4 168 31) (by decide +kernel)) dX4_run_277 ?_
                            refine lv_lmul hx hb dX4_run_280 ?_
                            refine lv_ldc2 (own := RX4) (v := 10) hx hb hown (hts (.constantLong RX4 175 10) (by decide +kernel)) dX4_run_281 ?_
                            refine lv_ladd hx hb dX4_run_284 ?_
                            refine lv_iload hx hb dX4_run_285 (lv_at hl 5 rfl) ?_
                            refine lv_i2l (v := (nI (kO (bt (th i)) nk j0)).toInt64) hx hb dX4_run_287 rfl ?_
                            refine lv_ladd hx hb dX4_run_288 ?_
                            refine va_put (D := (dC, dI)) (ci := 4) (v := .long (((((gwy * 31) + ((fo i).toInt64)) * 31) + 10) + ((nI (kO (bt (th i)) nk j0)).toInt64))) (ty := .long) (C := RX4) (T := TX4) (N := 20) hx hb hts (by decide +kernel) tyX4 tyX4_ok nmX4 hown hK hP hD hS 0 rfl rfl 15 (by decide) (hts (.fieldLink RX4 164 "HandlerOptimizerModel" "way" "J") (by decide +kernel)) (fun _ h9 => h9) rfl (by decide +kernel) rfl rfl (Nat.le_of_ble_eq_true rfl) dX4_run_289 (fun H locs hP hD hS => ?_)
                            have hP : va_P (dC, dI) vwCl (w4 b cI cZ 0 nk pa nc fo th tg nt tb te tk tt (gex + 1) gtc (-1) (((((gwy * 31) + ((fo i).toInt64)) * 31) + 10) + ((nI (kO (bt (th i)) nk j0)).toInt64)) ab re go be) H := hP
                            have hD : va_D A (w4 b cI cZ 0 nk pa nc fo th tg nt tb te tk tt (gex + 1) gtc (-1) (((((gwy * 31) + ((fo i).toInt64)) * 31) + 10) + ((nI (kO (bt (th i)) nk j0)).toInt64)) ab re go be) := hD
                            refine lv_aload_n hx hb dX4_run_292 rfl (lv_at hl 0 rfl) ?_
                            refine lv_iload hx hb dX4_run_293 (lv_at hl 4 rfl) ?_
                            refine lv_iload hx hb dX4_run_295 (lv_at hl 5 rfl) ?_
                            refine va_calli (va_runV (As := [.int (nI i), .int (nI (kO (bt (th i)) nk j0))]) (rest := []) ⟨hx, hb, hml, hown, hts⟩ (c_X4_takerOf l dC dI cI cZ cJ b 0 nk pa nc fo th tg nt tb te tk tt (gex + 1) gtc (-1) (((((gwy * 31) + ((fo i).toInt64)) * 31) + 10) + ((nI (kO (bt (th i)) nk j0)).toInt64)) ab re go be i (kO (bt (th i)) nk j0) T up (by first | assumption | omega) (by first | assumption | omega) (by omega) (hkl)) (cwV 2 hts gX4_run_X4_takerOf rfl rfl rfl (by decide +kernel) ⟨Nat.le_of_ble_eq_true rfl, Nat.le_of_ble_eq_true rfl⟩) ⟨zPre_blind, va_recv hK hP (ci := 4) (q0 := 0) rfl rfl, zPre_at hP hK hn⟩ rfl rfl hl.1 rfl (lv_room (Nat.le_of_ble_eq_true rfl)) dX4_run_297 ⟨Nat.le_of_ble_eq_true rfl, Nat.le_of_ble_eq_true rfl⟩) hS (fun _ _ h => h.elim) (fun _ h => h.elim) (fun r_14 u_9 t H locs ht hvm hw hB hz1 hk1 hS => ?_)
                            have hP := zkeep hP hk1
                            subst hw
                            refine lv_istore (lv' := [(11, .int (tkI T nt up i (kO (bt (th i)) nk j0))), (0, .ref (b 0)), (1, .long (lN X0)), (3, .int (nI M)), (4, .long (lN gX9)), (6, .int (nI i)), (10, .int (nI (kO (bt (th i)) nk j0)))]) hx hb dX4_run_300 hl (by decide) rfl (fun ls hl => ?_)
                            refine lv_iload hx hb dX4_run_302 (lv_at hl 0 rfl) ?_
                            refine lv_iconst (v := -1) hx hb dX4_run_304 (by decide) ?_
                            refine lv_icmp_ne (tgt := 316) hx hb dX4_run_305 (by decide) (fun c_15 => ?_) (fun c_15 => ?_)
                            · skip
                              have q1 := tkI_lt (by omega) c_15
                              have hst : (stS fo th tg nk T nt up) ((nI i, gX, y, gtc, -1, gwy) : RS) = (nI (T 3 (tkf T nt up i (kO (bt (th i)) nk j0))), gX9, y + 1, gtc + 1, -1, (gwy * 31 + (fo i).toInt64) * 31 + 10 + (nI (kO (bt (th i)) nk j0)).toInt64) := by
                                simp only [stS, nI_clamp (show i < 2 ^ 31 by omega), opN]
                                rw [hoX1, hoX2]
                                simp only [exS]; rw [if_neg c7, if_neg (by omega), ← hj0]; simp only [thS]; rw [if_pos q1]
                              have hq9 := hq.trans (rnS_s (f := (stS fo th tg nk T nt up)) hyM c9)
                              rw [hst] at hq9
                              refine lv_aload_n hx hb dX4_run_316 rfl (lv_at hl 1 rfl) ?_
                              refine lv_dup hx hb dX4_run_317 rfl ?_
                              refine va_get (D := (dC, dI)) (ci := 4) (v := .int gtc) (C := RX4) (T := TX4) (N := 20) hx hb hts (by decide +kernel) hown hK hP 0 rfl rfl 13 (by decide) (hts (.fieldLink RX4 159 "HandlerOptimizerModel" "taken" "I") (by decide +kernel)) (fun _ h9 => h9) rfl dX4_run_318 ?_
                              refine lv_iconst (v := 1) hx hb dX4_run_321 (by decide) ?_
                              refine lv_iadd hx hb dX4_run_322 ?_
                              refine va_put (D := (dC, dI)) (ci := 4) (v := .int (gtc + 1)) (ty := .int) (C := RX4) (T := TX4) (N := 20) hx hb hts (by decide +kernel) tyX4 tyX4_ok nmX4 hown hK hP hD hS 0 rfl rfl 13 (by decide) (hts (.fieldLink RX4 159 "HandlerOptimizerModel" "taken" "I") (by decide +kernel)) (fun _ h9 => h9) rfl (by decide +kernel) rfl rfl (Nat.le_of_ble_eq_true rfl) dX4_run_323 (fun H locs hP hD hS => ?_)
                              have hP : va_P (dC, dI) vwCl (w4 b cI cZ 0 nk pa nc fo th tg nt tb te tk tt (gex + 1) (gtc + 1) (-1) (((((gwy * 31) + ((fo i).toInt64)) * 31) + 10) + ((nI (kO (bt (th i)) nk j0)).toInt64)) ab re go be) H := hP
                              have hD : va_D A (w4 b cI cZ 0 nk pa nc fo th tg nt tb te tk tt (gex + 1) (gtc + 1) (-1) (((((gwy * 31) + ((fo i).toInt64)) * 31) + 10) + ((nI (kO (bt (th i)) nk j0)).toInt64)) ab re go be) := hD
                              refine lv_aload_n hx hb dX4_run_326 rfl (lv_at hl 1 rfl) ?_
                              refine va_get (D := (dC, dI)) (ci := 4) (v := .ref (b 8)) (C := RX4) (T := TX4) (N := 20) hx hb hts (by decide +kernel) hown hK hP 0 rfl rfl 11 (by decide) (hts (.fieldLink RX4 35 "HandlerOptimizerModel" "entryTargets" "[I") (by decide +kernel)) (fun _ h9 => h9) rfl dX4_run_327 ?_
                              refine lv_iload hx hb dX4_run_330 (lv_at hl 0 rfl) ?_
                              refine zz_top (y := nI (tkf T nt up i (kO (bt (th i)) nk j0))) (tkI_at q1) ?_
                              refine va_iald hx hb hK hP 8 0 rfl rfl (vp_in_nI (n := tkf T nt up i (kO (bt (th i)) nk j0)) (by omega) (by decide)) dX4_run_332 ?_
                              refine zz_top (y := tt (tkf T nt up i (kO (bt (th i)) nk j0))) (congrArg _ (nI_clamp (by omega))) ?_
                              refine zz_top (y := nI (T 3 (tkf T nt up i (kO (bt (th i)) nk j0)))) ((hT _ q1).2.2.2) ?_
                              refine lv_istore (lv' := [(6, .int (nI (T 3 (tkf T nt up i (kO (bt (th i)) nk j0))))), (11, .int (tkI T nt up i (kO (bt (th i)) nk j0))), (0, .ref (b 0)), (1, .long (lN X0)), (3, .int (nI M)), (4, .long (lN gX9)), (10, .int (nI (kO (bt (th i)) nk j0)))]) hx hb dX4_run_333 hl (by decide) rfl (fun ls hl => ?_)
                              refine lv_goto (tgt := 56) hx hb dX4_run_335 (by decide) ?_
                              exact ih_56 (y + 1) (nI (T 3 (tkf T nt up i (kO (bt (th i)) nk j0)))) gX9 (gex + 1) (gtc + 1) (((((gwy * 31) + ((fo i).toInt64)) * 31) + 10) + ((nI (kO (bt (th i)) nk j0)).toInt64)) _ _ _ (by omega) hX9 (by rw [hex]; exact nI_1 y) hq9 (by omega) hP hD hS (lv_sub hl [2, 3, 4, 5, 0] rfl)
                            · skip
                              have q1 := tkI_m1 (by omega) c_15
                              have hend := (hq.trans (rnS_s (f := (stS fo th tg nk T nt up)) hyM c9)).trans (rnS_0 (by simp only [stS, nI_clamp (show i < 2 ^ 31 by omega), opN]; rw [hoX1]; simp only [exS]; rw [if_neg c7, if_neg (by omega), ← hj0]; simp only [thS]; rw [if_neg q1]; exact hasI_m1 nc))
                              have hst : (stS fo th tg nk T nt up) ((nI i, gX, y, gtc, -1, gwy) : RS) = (-1, gX9, y + 1, gtc, nI (kO (bt (th i)) nk j0), (gwy * 31 + (fo i).toInt64) * 31 + 10 + (nI (kO (bt (th i)) nk j0)).toInt64) := by
                                simp only [stS, nI_clamp (show i < 2 ^ 31 by omega), opN]
                                rw [hoX1, hoX2]
                                simp only [exS]; rw [if_neg c7, if_neg (by omega), ← hj0]; simp only [thS]; rw [if_neg q1]
                              rw [hst] at hend
                              refine lv_aload_n hx hb dX4_run_308 rfl (lv_at hl 1 rfl) ?_
                              refine lv_iload hx hb dX4_run_309 (lv_at hl 6 rfl) ?_
                              refine va_put (D := (dC, dI)) (ci := 4) (v := .int (nI (kO (bt (th i)) nk j0))) (ty := .int) (C := RX4) (T := TX4) (N := 20) hx hb hts (by decide +kernel) tyX4 tyX4_ok nmX4 hown hK hP hD hS 0 rfl rfl 14 (by decide) (hts (.fieldLink RX4 38 "HandlerOptimizerModel" "escaped" "I") (by decide +kernel)) (fun _ h9 => h9) rfl (by decide +kernel) rfl rfl (Nat.le_of_ble_eq_true rfl) dX4_run_311 (fun H locs hP hD hS => ?_)
                              have hP : va_P (dC, dI) vwCl (w4 b cI cZ 0 nk pa nc fo th tg nt tb te tk tt (gex + 1) gtc (nI (kO (bt (th i)) nk j0)) (((((gwy * 31) + ((fo i).toInt64)) * 31) + 10) + ((nI (kO (bt (th i)) nk j0)).toInt64)) ab re go be) H := hP
                              have hD : va_D A (w4 b cI cZ 0 nk pa nc fo th tg nt tb te tk tt (gex + 1) gtc (nI (kO (bt (th i)) nk j0)) (((((gwy * 31) + ((fo i).toInt64)) * 31) + 10) + ((nI (kO (bt (th i)) nk j0)).toInt64)) ab re go be) := hD
                              refine lv_iconst (v := 1) hx hb dX4_run_314 (by decide) ?_
                              rw [← hQ]
                              have hP9 := hP
                              have hD9 := hD
                              exact W.iret (v := 1) hx hb hr (fun t ht hW => ⟨⟨1, (0, gex + 1, gtc, nI (kO (bt (th i)) nk j0), ((((gwy * 31) + ((fo i).toInt64)) * 31) + 10) + ((nI (kO (bt (th i)) nk j0)).toInt64)), rfl, (by rw [hend]; exact Or.inr ⟨hok, rfl, by simp only [ouS]; rw [if_neg (nI_ne_m1 (by omega))], by rw [hex]; exact nI_1 y, rfl⟩), (by rw [ht]; exact hP9), va_K.moved hW.alike hK, hD9⟩, hS.F ht⟩) hS.2.2 dX4_run_315
                          · skip
                            have c1 := zz_cdf c_13
                            obtain ⟨z, rfl⟩ : ∃ z, l9 = z + 1 := ⟨l9 - 1, by omega⟩
                            rw [nI_pred] at hl
                            refine lv_iinc (v := nI k9) (lv' := [(10, .int (nI k9)), (0, .ref (b 0)), (1, .long (lN X0)), (3, .int (nI M)), (4, .long (lN gX9)), (6, .int (nI i)), (11, .int (nI z))]) hx hb dX4_run_242 hl (k := 5) rfl (zz_incm k9) (by decide) rfl (fun ls hl => ?_)
                            have J_245 : ∀ (n9 : Nat) (kk : Nat) (H : Heap) (locs : List Loc) (ls : Array Slot), (kk < 8) → (ct (bt (th i)) kk = j0 - z) → 8 - kk < n9 → va_P (dC, dI) vwCl (w4 b cI cZ 0 nk pa nc fo th tg nt tb te tk tt (gex + 1) gtc (-1) ((gwy * 31) + ((fo i).toInt64)) ab re go be) H → va_D A (w4 b cI cZ 0 nk pa nc fo th tg nt tb te tk tt (gex + 1) gtc (-1) ((gwy * 31) + ((fo i).toInt64)) ab re go be) → va_S A s.heap H locs → lv_has ls 12 [(0, .ref (b 0)), (1, .long (lN X0)), (3, .int (nI M)), (4, .long (lN gX9)), (6, .int (nI i)), (10, .int (nI kk)), (11, .int (nI z))] → W p l e (headSpec wsX4_run ({ frames := 2, cells := 0, slots := 0, locals := 44 } : Room)).room s m args below meth c H locs 0 0 Q (F0 m 245 ls []) := by
                              intro n9
                              induction n9 with
                              | zero => intro kk H locs ls hkk hck hmu; exact absurd hmu (Nat.not_lt_zero _)
                              | succ n9 ih_245 =>
                                intro kk H locs ls hkk hck hmu hP hD hS hl
                                refine lv_aload_n hx hb dX4_run_245 rfl (lv_at hl 0 rfl) ?_
                                refine va_get (D := (dC, dI)) (ci := 4) (v := .ref (b 3)) (C := RX4) (T := TX4) (N := 20) hx hb hts (by decide +kernel) hown hK hP 0 rfl rfl 5 (by decide) (hts (.fieldLink RX4 20 "HandlerOptimizerModel" "errors" "[I") (by decide +kernel)) (fun _ h9 => h9) rfl dX4_run_246 ?_
                                refine lv_iload hx hb dX4_run_249 (lv_at hl 4 rfl) ?_
                                refine va_iald hx hb hK hP 3 0 rfl rfl (vp_in_nI (n := i) (by omega) (by decide)) dX4_run_251 ?_
                                refine zz_top (y := th i) (congrArg _ (nI_clamp (by omega))) ?_
                                refine lv_iload hx hb dX4_run_252 (lv_at hl 5 rfl) ?_
                                have hPc : va_P (dC, dI) vwCl [] H := fun k q h => by simp at h
                                refine va_calli (va_runS (As := [.int (th i), .int (nI kk)]) (rest := []) ⟨hx, hb, hml, hown, hts⟩ (c_X4_has l dC dI cI cZ cJ (th i) kk (by omega)) (va_cwS 2 hts gX4_run_X4_has rfl rfl rfl (by decide +kernel) ⟨Nat.le_of_ble_eq_true rfl, Nat.le_of_ble_eq_true rfl⟩) ⟨zPre_blind, zPre_at hPc hK hn⟩ rfl rfl hl.1 rfl (lv_room (Nat.le_of_ble_eq_true rfl)) dX4_run_254 ⟨Nat.le_of_ble_eq_true rfl, Nat.le_of_ble_eq_true rfl⟩) hS (fun _ _ h => h.elim) (fun _ h => h.elim) (fun r_16 u_9 t H locs ht hvm hw hB hz1 hk1 hS => ?_)
                                have hP := zkeep hP hk1
                                subst hw
                                refine lv_if_ne (tgt := 266) hx hb dX4_run_257 (by decide) (fun c_17 => ?_) (fun c_17 => ?_)
                                · skip
                                  have c20 := zb_1.mp c_17
                                  rw [← nI_pred kk] at hl
                                  refine lv_iinc (v := nI z - 1) (lv' := [(11, .int (nI z - 1)), (0, .ref (b 0)), (1, .long (lN X0)), (3, .int (nI M)), (4, .long (lN gX9)), (6, .int (nI i)), (10, .int (nI (kk + 1) - 1))]) hx hb dX4_run_266 hl (k := 6) rfl (zz_decm z) (by decide) rfl (fun ls hl => ?_)
                                  refine lv_goto (tgt := 237) hx hb dX4_run_269 (by decide) ?_
                                  exact ih_237 z (kk + 1) _ _ _ (by first | assumption | omega) (by first | assumption | omega) (by simp only [ct]; rw [c20]; simp only [if_true]; omega) (fun _ => ⟨by omega, by simpa using c20⟩) (by omega) hP hD hS (lv_sub hl [1, 2, 3, 4, 5, 6, 0] rfl)
                                · skip
                                  have c20 := zb_0.mp c_17
                                  refine lv_iinc (v := nI (kk + 1)) (lv' := [(10, .int (nI (kk + 1))), (0, .ref (b 0)), (1, .long (lN X0)), (3, .int (nI M)), (4, .long (lN gX9)), (6, .int (nI i)), (11, .int (nI z))]) hx hb dX4_run_260 hl (k := 5) rfl (zz_inc kk 1) (by decide) rfl (fun ls hl => ?_)
                                  refine lv_goto (tgt := 245) hx hb dX4_run_263 (by decide) ?_
                                  exact ih_245 (kk + 1) _ _ _ (by
                                          rcases Nat.lt_or_ge (kk + 1) 8 with q | q
                                          · exact q
                                          · have h6 : ct (bt (th i)) (kk + 1) = ct (bt (th i)) kk := by simp [ct, c20]
                                            have h7 : kk + 1 = 8 := by omega
                                            rw [h7] at h6; have h5 : bc (th i) = ct (bt (th i)) kk := h6; omega) (by simp only [ct]; rw [c20]; simp only [Bool.false_eq_true, if_false]; omega) (by omega) hP hD hS (lv_sub hl [1, 2, 3, 4, 5, 0, 6] rfl)
                            exact J_245 _ k9 _ _ _ (by
                                    rcases Nat.lt_or_ge k9 8 with q | q
                                    · exact q
                                    · have : k9 = 8 := by omega
                                      rw [this] at hct; have h5 : bc (th i) = j0 + 1 - (z + 1) := hct; omega) (by omega) (Nat.lt_succ_self _) hP hD hS (lv_sub hl [1, 2, 3, 4, 5, 0, 6] rfl)
                      exact J_237 _ (j0 + 1) 0 _ _ _ (by first | assumption | omega) (by first | assumption | omega) (by simp [ct]) (fun q => by omega) (Nat.lt_succ_self _) hP hD hS (lv_sub hl [6, 7, 8, 2, 9, 1, 0] rfl)
                    · skip
                      have c4 := (zz_gef (a := o9) (b := noN (fo i)) (by omega) (by omega)).mp c_12
                      refine lv_aload_n hx hb dX4_run_191 rfl (lv_at hl 4 rfl) ?_
                      refine va_get (D := (dC, dI)) (ci := 4) (v := .ref (b 2)) (C := RX4) (T := TX4) (N := 20) hx hb hts (by decide +kernel) hown hK hP 0 rfl rfl 4 (by decide) (hts (.fieldLink RX4 17 "HandlerOptimizerModel" "forms" "[I") (by decide +kernel)) (fun _ h9 => h9) rfl dX4_run_192 ?_
                      refine lv_iload hx hb dX4_run_195 (lv_at hl 7 rfl) ?_
                      refine va_iald hx hb hK hP 2 0 rfl rfl (vp_in_nI (n := i) (by omega) (by decide)) dX4_run_197 ?_
                      refine zz_top (y := fo i) (congrArg _ (nI_clamp (by omega))) ?_
                      refine lv_iconst (v := 1) hx hb dX4_run_198 (by decide) ?_
                      refine lv_icmp_eq (tgt := 208) hx hb dX4_run_199 (by decide) (fun c_18 => ?_) (fun c_18 => ?_)
                      · skip
                        have c3 : nnx (fo i) (tg i) i o9 = tg i := by simp [nnx, c_18]
                        have hst : (stS fo th tg nk T nt up) ((nI i, gX, y, gtc, -1, gwy) : RS) = (tg i, gX9, y + 1, gtc, -1, gwy * 31 + (fo i).toInt64) := by
                          simp only [stS, nI_clamp (show i < 2 ^ 31 by omega), opN]
                          rw [hoX1, hoX2]
                          simp only [exS]; rw [if_neg c7, if_pos c4, c3]
                        have hq9 := hq.trans (rnS_s (f := (stS fo th tg nk T nt up)) hyM c9)
                        rw [hst] at hq9
                        refine lv_aload_n hx hb dX4_run_208 rfl (lv_at hl 4 rfl) ?_
                        refine va_get (D := (dC, dI)) (ci := 4) (v := .ref (b 4)) (C := RX4) (T := TX4) (N := 20) hx hb hts (by decide +kernel) hown hK hP 0 rfl rfl 6 (by decide) (hts (.fieldLink RX4 23 "HandlerOptimizerModel" "targets" "[I") (by decide +kernel)) (fun _ h9 => h9) rfl dX4_run_209 ?_
                        refine lv_iload hx hb dX4_run_212 (lv_at hl 7 rfl) ?_
                        refine va_iald hx hb hK hP 4 0 rfl rfl (vp_in_nI (n := i) (by omega) (by decide)) dX4_run_214 ?_
                        refine zz_top (y := tg i) (congrArg _ (nI_clamp (by omega))) ?_
                        refine lv_goto (tgt := 222) hx hb dX4_run_215 (by decide) ?_
                        refine lv_istore (lv' := [(6, .int (tg i)), (4, .long (lN gX9)), (9, .int (nI o9)), (8, .int (nI ((noN (fo i)) + (bc (th i))))), (7, .int (nI (noN (fo i)))), (0, .ref (b 0)), (1, .long (lN X0)), (3, .int (nI M))]) hx hb dX4_run_222 hl (by decide) rfl (fun ls hl => ?_)
                        refine lv_goto (tgt := 56) hx hb dX4_run_224 (by decide) ?_
                        exact ih_56 (y + 1) (tg i) gX9 (gex + 1) gtc ((gwy * 31) + ((fo i).toInt64)) _ _ _ (by omega) hX9 (by rw [hex]; exact nI_1 y) hq9 (by omega) hP hD hS (lv_sub hl [5, 6, 7, 1, 0] rfl)
                      · skip
                        have c2 := c_18
                        refine lv_iload hx hb dX4_run_202 (lv_at hl 1 rfl) ?_
                        refine lv_iconst (v := 1) hx hb dX4_run_204 (by decide) ?_
                        refine lv_icmp_ne (tgt := 218) hx hb dX4_run_205 (by decide) (fun c_19 => ?_) (fun c_19 => ?_)
                        · skip
                          have c1 := (zz_net (a := o9) (b := 1) (by omega) (by omega)).mp c_19
                          have c3 : nnx (fo i) (tg i) i o9 = nI (i + 1) := by simp only [nnx]; rw [if_neg (by intro q; rcases q with q | q; exact c2 q; omega)]
                          have hst : (stS fo th tg nk T nt up) ((nI i, gX, y, gtc, -1, gwy) : RS) = (nI (i + 1), gX9, y + 1, gtc, -1, gwy * 31 + (fo i).toInt64) := by
                            simp only [stS, nI_clamp (show i < 2 ^ 31 by omega), opN]
                            rw [hoX1, hoX2]
                            simp only [exS]; rw [if_neg c7, if_pos c4, c3]
                          have hq9 := hq.trans (rnS_s (f := (stS fo th tg nk T nt up)) hyM c9)
                          rw [hst] at hq9
                          refine lv_iload hx hb dX4_run_218 (lv_at hl 7 rfl) ?_
                          refine lv_iconst (v := 1) hx hb dX4_run_220 (by decide) ?_
                          refine lv_iadd hx hb dX4_run_221 ?_
                          refine zz_top (y := nI (i + 1)) (nI_add _ _) ?_
                          refine lv_istore (lv' := [(6, .int (nI (i + 1))), (4, .long (lN gX9)), (9, .int (nI o9)), (8, .int (nI ((noN (fo i)) + (bc (th i))))), (7, .int (nI (noN (fo i)))), (0, .ref (b 0)), (1, .long (lN X0)), (3, .int (nI M))]) hx hb dX4_run_222 hl (by decide) rfl (fun ls hl => ?_)
                          refine lv_goto (tgt := 56) hx hb dX4_run_224 (by decide) ?_
                          exact ih_56 (y + 1) (nI (i + 1)) gX9 (gex + 1) gtc ((gwy * 31) + ((fo i).toInt64)) _ _ _ (by omega) hX9 (by rw [hex]; exact nI_1 y) hq9 (by omega) hP hD hS (lv_sub hl [5, 6, 7, 1, 0] rfl)
                        · skip
                          have c1 := (zz_nef (a := o9) (b := 1) (by omega) (by omega)).mp c_19
                          have c3 : nnx (fo i) (tg i) i o9 = tg i := by simp only [nnx]; rw [if_pos (Or.inr (by omega))]
                          have hst : (stS fo th tg nk T nt up) ((nI i, gX, y, gtc, -1, gwy) : RS) = (tg i, gX9, y + 1, gtc, -1, gwy * 31 + (fo i).toInt64) := by
                            simp only [stS, nI_clamp (show i < 2 ^ 31 by omega), opN]
                            rw [hoX1, hoX2]
                            simp only [exS]; rw [if_neg c7, if_pos c4, c3]
                          have hq9 := hq.trans (rnS_s (f := (stS fo th tg nk T nt up)) hyM c9)
                          rw [hst] at hq9
                          refine lv_aload_n hx hb dX4_run_208 rfl (lv_at hl 4 rfl) ?_
                          refine va_get (D := (dC, dI)) (ci := 4) (v := .ref (b 4)) (C := RX4) (T := TX4) (N := 20) hx hb hts (by decide +kernel) hown hK hP 0 rfl rfl 6 (by decide) (hts (.fieldLink RX4 23 "HandlerOptimizerModel" "targets" "[I") (by decide +kernel)) (fun _ h9 => h9) rfl dX4_run_209 ?_
                          refine lv_iload hx hb dX4_run_212 (lv_at hl 7 rfl) ?_
                          refine va_iald hx hb hK hP 4 0 rfl rfl (vp_in_nI (n := i) (by omega) (by decide)) dX4_run_214 ?_
                          refine zz_top (y := tg i) (congrArg _ (nI_clamp (by omega))) ?_
                          refine lv_goto (tgt := 222) hx hb dX4_run_215 (by decide) ?_
                          refine lv_istore (lv' := [(6, .int (tg i)), (4, .long (lN gX9)), (9, .int (nI o9)), (8, .int (nI ((noN (fo i)) + (bc (th i))))), (7, .int (nI (noN (fo i)))), (0, .ref (b 0)), (1, .long (lN X0)), (3, .int (nI M))]) hx hb dX4_run_222 hl (by decide) rfl (fun ls hl => ?_)
                          refine lv_goto (tgt := 56) hx hb dX4_run_224 (by decide) ?_
                          exact ih_56 (y + 1) (tg i) gX9 (gex + 1) gtc ((gwy * 31) + ((fo i).toInt64)) _ _ _ (by omega) hX9 (by rw [hex]; exact nI_1 y) hq9 (by omega) hP hD hS (lv_sub hl [5, 6, 7, 1, 0] rfl)
                  · skip
                    have c6 : (2 : Int32) = nI (noN (fo i)) := by rw [show noN (fo i) = 2 from by simp [noN, c_10]]; rfl
                    refine lv_iconst (v := 2) hx hb dX4_run_145 (by decide) ?_
                    refine lv_goto (tgt := 150) hx hb dX4_run_146 (by decide) ?_
                    refine zz_top (y := nI (noN (fo i))) c6 ?_
                    refine lv_istore (lv' := [(7, .int (nI (noN (fo i)))), (0, .ref (b 0)), (1, .long (lN X0)), (3, .int (nI M)), (4, .long (lN gX)), (6, .int (nI i))]) hx hb dX4_run_150 hl (by decide) rfl (fun ls hl => ?_)
                    refine lv_iload hx hb dX4_run_152 (lv_at hl 0 rfl) ?_
                    refine lv_aload_n hx hb dX4_run_154 rfl (lv_at hl 1 rfl) ?_
                    refine va_get (D := (dC, dI)) (ci := 4) (v := .ref (b 3)) (C := RX4) (T := TX4) (N := 20) hx hb hts (by decide +kernel) hown hK hP 0 rfl rfl 5 (by decide) (hts (.fieldLink RX4 20 "HandlerOptimizerModel" "errors" "[I") (by decide +kernel)) (fun _ h9 => h9) rfl dX4_run_155 ?_
                    refine lv_iload hx hb dX4_run_158 (lv_at hl 5 rfl) ?_
                    refine va_iald hx hb hK hP 3 0 rfl rfl (vp_in_nI (n := i) (by omega) (by decide)) dX4_run_160 ?_
                    refine zz_top (y := th i) (congrArg _ (nI_clamp (by omega))) ?_
                    have hPc : va_P (dC, dI) vwCl [] H := fun k q h => by simp at h
                    refine va_calli (va_runS (As := [.int (th i)]) (rest := [.int (nI (noN (fo i)))]) ⟨hx, hb, hml, hown, hts⟩ (c_J6_bitCount_0f7a4 l dC dI cI cZ cJ (th i) ((hC i hi).2.1)) (va_cwS 1 hts gX4_run_J6_bitCount_0f7a4 rfl rfl rfl (by decide +kernel) ⟨Nat.le_of_ble_eq_true rfl, Nat.le_of_ble_eq_true rfl⟩) ⟨zPre_blind, zPre_at hPc hK hn⟩ rfl rfl hl.1 rfl (lv_room (Nat.le_of_ble_eq_true rfl)) dX4_run_161 ⟨Nat.le_of_ble_eq_true rfl, Nat.le_of_ble_eq_true rfl⟩) hS (fun _ _ h => h.elim) (fun _ h => h.elim) (fun r_20 u_9 t H locs ht hvm hw hB hz1 hk1 hS => ?_)
                    have hP := zkeep hP hk1
                    subst hw
                    refine lv_iadd hx hb dX4_run_164 ?_
                    refine zz_top (y := nI ((noN (fo i)) + (bc (th i)))) (nI_add _ _) ?_
                    refine lv_istore (lv' := [(8, .int (nI ((noN (fo i)) + (bc (th i))))), (7, .int (nI (noN (fo i)))), (0, .ref (b 0)), (1, .long (lN X0)), (3, .int (nI M)), (4, .long (lN gX)), (6, .int (nI i))]) hx hb dX4_run_165 hl (by decide) rfl (fun ls hl => ?_)
                    refine lv_lload hx hb dX4_run_167 (lv_at hl 5 rfl) ?_
                    refine lv_iload hx hb dX4_run_169 (lv_at hl 0 rfl) ?_
                    refine lv_i2l (v := (nI ((noN (fo i)) + (bc (th i)))).toInt64) hx hb dX4_run_171 rfl ?_
                    refine zz_topl (y := lN (noN (fo i) + bc (th i))) (nI_l (by omega)) ?_
                    refine lv_lrem hx hb dX4_run_172 (lN_ne0 hm0 (by omega)) ?_
                    refine zz_topl (y := lN o9) (by rw [ho9e]; exact pk_lRem hX hm0 (by omega)) ?_
                    refine lv_l2i (v := (lN o9).toInt32) hx hb dX4_run_173 rfl ?_
                    refine zz_top (y := nI o9) (lN_i _) ?_
                    refine lv_istore (lv' := [(9, .int (nI o9)), (8, .int (nI ((noN (fo i)) + (bc (th i))))), (7, .int (nI (noN (fo i)))), (0, .ref (b 0)), (1, .long (lN X0)), (3, .int (nI M)), (4, .long (lN gX)), (6, .int (nI i))]) hx hb dX4_run_174 hl (by decide) rfl (fun ls hl => ?_)
                    refine lv_lload hx hb dX4_run_176 (lv_at hl 6 rfl) ?_
                    refine lv_iload hx hb dX4_run_178 (lv_at hl 1 rfl) ?_
                    refine lv_i2l (v := (nI ((noN (fo i)) + (bc (th i)))).toInt64) hx hb dX4_run_180 rfl ?_
                    refine zz_topl (y := lN (noN (fo i) + bc (th i))) (nI_l (by omega)) ?_
                    refine lv_ldiv hx hb dX4_run_181 (lN_ne0 hm0 (by omega)) ?_
                    refine zz_topl (y := lN gX9) (by rw [hgX9]; exact pk_lDiv hX hm0 (by omega)) ?_
                    refine lv_lstore (lv' := [(4, .long (lN gX9)), (9, .int (nI o9)), (8, .int (nI ((noN (fo i)) + (bc (th i))))), (7, .int (nI (noN (fo i)))), (0, .ref (b 0)), (1, .long (lN X0)), (3, .int (nI M)), (6, .int (nI i))]) hx hb dX4_run_182 hl (by decide) rfl (fun ls hl => ?_)
                    refine lv_iload hx hb dX4_run_184 (lv_at hl 1 rfl) ?_
                    refine lv_iload hx hb dX4_run_186 (lv_at hl 3 rfl) ?_
                    refine lv_icmp_ge (tgt := 227) hx hb dX4_run_188 (by decide) (fun c_21 => ?_) (fun c_21 => ?_)
                    · skip
                      have c4 := (zz_get (a := o9) (b := noN (fo i)) (by omega) (by omega)).mp c_21
                      obtain ⟨j0, hj0⟩ : ∃ q, q = o9 - noN (fo i) := ⟨_, rfl⟩
                      have hjb : j0 < bc (th i) := by omega
                      refine lv_iconst (v := -1) hx hb dX4_run_227 (by decide) ?_
                      refine zz_top (y := nI 0 - 1) (by decide) ?_
                      refine lv_istore (lv' := [(10, .int (nI 0 - 1)), (4, .long (lN gX9)), (9, .int (nI o9)), (8, .int (nI ((noN (fo i)) + (bc (th i))))), (7, .int (nI (noN (fo i)))), (0, .ref (b 0)), (1, .long (lN X0)), (3, .int (nI M)), (6, .int (nI i))]) hx hb dX4_run_228 hl (by decide) rfl (fun ls hl => ?_)
                      refine lv_iload hx hb dX4_run_230 (lv_at hl 2 rfl) ?_
                      refine lv_iload hx hb dX4_run_232 (lv_at hl 4 rfl) ?_
                      refine lv_isub hx hb dX4_run_234 ?_
                      refine zz_top (y := nI (j0 + 1) - 1) (by rw [nI_pred, hj0]; exact zz_subn (by omega)) ?_
                      refine lv_istore (lv' := [(11, .int (nI (j0 + 1) - 1)), (10, .int (nI 0 - 1)), (4, .long (lN gX9)), (9, .int (nI o9)), (8, .int (nI ((noN (fo i)) + (bc (th i))))), (7, .int (nI (noN (fo i)))), (0, .ref (b 0)), (1, .long (lN X0)), (3, .int (nI M)), (6, .int (nI i))]) hx hb dX4_run_235 hl (by decide) rfl (fun ls hl => ?_)
                      have J_237 : ∀ (n9 : Nat) (l9 : Nat) (k9 : Nat) (H : Heap) (locs : List Loc) (ls : Array Slot), (l9 ≤ j0 + 1) → (k9 ≤ 8) → (ct (bt (th i)) k9 = j0 + 1 - l9) → (l9 ≤ j0 → 0 < k9 ∧ bt (th i) (k9 - 1) = true) → l9 < n9 → va_P (dC, dI) vwCl (w4 b cI cZ 0 nk pa nc fo th tg nt tb te tk tt (gex + 1) gtc (-1) ((gwy * 31) + ((fo i).toInt64)) ab re go be) H → va_D A (w4 b cI cZ 0 nk pa nc fo th tg nt tb te tk tt (gex + 1) gtc (-1) ((gwy * 31) + ((fo i).toInt64)) ab re go be) → va_S A s.heap H locs → lv_has ls 12 [(0, .ref (b 0)), (1, .long (lN X0)), (3, .int (nI M)), (4, .long (lN gX9)), (6, .int (nI i)), (10, .int (nI k9 - 1)), (11, .int (nI l9 - 1))] → W p l e (headSpec wsX4_run ({ frames := 2, cells := 0, slots := 0, locals := 44 } : Room)).room s m args below meth c H locs 0 0 Q (F0 m 237 ls []) := by
                        intro n9
                        induction n9 with
                        | zero => intro l9 k9 H locs ls hl9 hk9 hct hlast hmu; exact absurd hmu (Nat.not_lt_zero _)
                        | succ n9 ih_237 =>
                          intro l9 k9 H locs ls hl9 hk9 hct hlast hmu hP hD hS hl
                          refine lv_iload hx hb dX4_run_237 (lv_at hl 6 rfl) ?_
                          refine lv_if_lt (tgt := 272) hx hb dX4_run_239 (by decide) (fun c_22 => ?_) (fun c_22 => ?_)
                          · skip
                            have c1 := zz_cdt (by omega) c_22
                            obtain ⟨h10, h11⟩ := hlast (by omega)
                            have hkn : k9 - 1 < nk := by
                              rcases Nat.lt_or_ge (k9 - 1) nk with q | q
                              · exact q
                              · rw [(hC i hi).2.2.1 (k9 - 1) q (by omega)] at h11; cases h11
                            have hkO := kO_at h10 h11 (by rw [hct]; omega : ct (bt (th i)) k9 = j0 + 1) hkn
                            rw [hkO] at hl
                            have hkl : kO (bt (th i)) nk j0 < nk := kO_lt hk01
                            refine lv_aload_n hx hb dX4_run_272 rfl (lv_at hl 0 rfl) ?_
                            refine lv_aload_n hx hb dX4_run_273 rfl (lv_at hl 0 rfl) ?_
                            refine va_get (D := (dC, dI)) (ci := 4) (v := .long ((gwy * 31) + ((fo i).toInt64))) (C := RX4) (T := TX4) (N := 20) hx hb hts (by decide +kernel) hown hK hP 0 rfl rfl 15 (by decide) (hts (.fieldLink RX4 164 "HandlerOptimizerModel" "way" "J") (by decide +kernel)) (fun _ h9 => h9) rfl dX4_run_274 ?_
                            refine lv_ldc2 (own := RX4) (v := 31) hx hb hown (hts (.constantLong RX4 168 31) (by decide +kernel)) dX4_run_277 ?_
                            refine lv_lmul hx hb dX4_run_280 ?_
                            refine lv_ldc2 (own := RX4) (v := 10) hx hb hown (hts (.constantLong RX4 175 10) (by decide +kernel)) dX4_run_281 ?_
                            refine lv_ladd hx hb dX4_run_284 ?_
                            refine lv_iload hx hb dX4_run_285 (lv_at hl 5 rfl) ?_
                            refine lv_i2l (v := (nI (kO (bt (th i)) nk j0)).toInt64) hx hb dX4_run_287 rfl ?_
                            refine lv_ladd hx hb dX4_run_288 ?_
                            refine va_put (D := (dC, dI)) (ci := 4) (v := .long (((((gwy * 31) + ((fo i).toInt64)) * 31) + 10) + ((nI (kO (bt (th i)) nk j0)).toInt64))) (ty := .long) (C := RX4) (T := TX4) (N := 20) hx hb hts (by decide +kernel) tyX4 tyX4_ok nmX4 hown hK hP hD hS 0 rfl rfl 15 (by decide) (hts (.fieldLink RX4 164 "HandlerOptimizerModel" "way" "J") (by decide +kernel)) (fun _ h9 => h9) rfl (by decide +kernel) rfl rfl (Nat.le_of_ble_eq_true rfl) dX4_run_289 (fun H locs hP hD hS => ?_)
                            have hP : va_P (dC, dI) vwCl (w4 b cI cZ 0 nk pa nc fo th tg nt tb te tk tt (gex + 1) gtc (-1) (((((gwy * 31) + ((fo i).toInt64)) * 31) + 10) + ((nI (kO (bt (th i)) nk j0)).toInt64)) ab re go be) H := hP
                            have hD : va_D A (w4 b cI cZ 0 nk pa nc fo th tg nt tb te tk tt (gex + 1) gtc (-1) (((((gwy * 31) + ((fo i).toInt64)) * 31) + 10) + ((nI (kO (bt (th i)) nk j0)).toInt64)) ab re go be) := hD
                            refine lv_aload_n hx hb dX4_run_292 rfl (lv_at hl 0 rfl) ?_
                            refine lv_iload hx hb dX4_run_293 (lv_at hl 4 rfl) ?_
                            refine lv_iload hx hb dX4_run_295 (lv_at hl 5 rfl) ?_
                            refine va_calli (va_runV (As := [.int (nI i), .int (nI (kO (bt (th i)) nk j0))]) (rest := []) ⟨hx, hb, hml, hown, hts⟩ (c_X4_takerOf l dC dI cI cZ cJ b 0 nk pa nc fo th tg nt tb te tk tt (gex + 1) gtc (-1) (((((gwy * 31) + ((fo i).toInt64)) * 31) + 10) + ((nI (kO (bt (th i)) nk j0)).toInt64)) ab re go be i (kO (bt (th i)) nk j0) T up (by first | assumption | omega) (by first | assumption | omega) (by omega) (hkl)) (cwV 2 hts gX4_run_X4_takerOf rfl rfl rfl (by decide +kernel) ⟨Nat.le_of_ble_eq_true rfl, Nat.le_of_ble_eq_true rfl⟩) ⟨zPre_blind, va_recv hK hP (ci := 4) (q0 := 0) rfl rfl, zPre_at hP hK hn⟩ rfl rfl hl.1 rfl (lv_room (Nat.le_of_ble_eq_true rfl)) dX4_run_297 ⟨Nat.le_of_ble_eq_true rfl, Nat.le_of_ble_eq_true rfl⟩) hS (fun _ _ h => h.elim) (fun _ h => h.elim) (fun r_23 u_9 t H locs ht hvm hw hB hz1 hk1 hS => ?_)
                            have hP := zkeep hP hk1
                            subst hw
                            refine lv_istore (lv' := [(11, .int (tkI T nt up i (kO (bt (th i)) nk j0))), (0, .ref (b 0)), (1, .long (lN X0)), (3, .int (nI M)), (4, .long (lN gX9)), (6, .int (nI i)), (10, .int (nI (kO (bt (th i)) nk j0)))]) hx hb dX4_run_300 hl (by decide) rfl (fun ls hl => ?_)
                            refine lv_iload hx hb dX4_run_302 (lv_at hl 0 rfl) ?_
                            refine lv_iconst (v := -1) hx hb dX4_run_304 (by decide) ?_
                            refine lv_icmp_ne (tgt := 316) hx hb dX4_run_305 (by decide) (fun c_24 => ?_) (fun c_24 => ?_)
                            · skip
                              have q1 := tkI_lt (by omega) c_24
                              have hst : (stS fo th tg nk T nt up) ((nI i, gX, y, gtc, -1, gwy) : RS) = (nI (T 3 (tkf T nt up i (kO (bt (th i)) nk j0))), gX9, y + 1, gtc + 1, -1, (gwy * 31 + (fo i).toInt64) * 31 + 10 + (nI (kO (bt (th i)) nk j0)).toInt64) := by
                                simp only [stS, nI_clamp (show i < 2 ^ 31 by omega), opN]
                                rw [hoX1, hoX2]
                                simp only [exS]; rw [if_neg c7, if_neg (by omega), ← hj0]; simp only [thS]; rw [if_pos q1]
                              have hq9 := hq.trans (rnS_s (f := (stS fo th tg nk T nt up)) hyM c9)
                              rw [hst] at hq9
                              refine lv_aload_n hx hb dX4_run_316 rfl (lv_at hl 1 rfl) ?_
                              refine lv_dup hx hb dX4_run_317 rfl ?_
                              refine va_get (D := (dC, dI)) (ci := 4) (v := .int gtc) (C := RX4) (T := TX4) (N := 20) hx hb hts (by decide +kernel) hown hK hP 0 rfl rfl 13 (by decide) (hts (.fieldLink RX4 159 "HandlerOptimizerModel" "taken" "I") (by decide +kernel)) (fun _ h9 => h9) rfl dX4_run_318 ?_
                              refine lv_iconst (v := 1) hx hb dX4_run_321 (by decide) ?_
                              refine lv_iadd hx hb dX4_run_322 ?_
                              refine va_put (D := (dC, dI)) (ci := 4) (v := .int (gtc + 1)) (ty := .int) (C := RX4) (T := TX4) (N := 20) hx hb hts (by decide +kernel) tyX4 tyX4_ok nmX4 hown hK hP hD hS 0 rfl rfl 13 (by decide) (hts (.fieldLink RX4 159 "HandlerOptimizerModel" "taken" "I") (by decide +kernel)) (fun _ h9 => h9) rfl (by decide +kernel) rfl rfl (Nat.le_of_ble_eq_true rfl) dX4_run_323 (fun H locs hP hD hS => ?_)
                              have hP : va_P (dC, dI) vwCl (w4 b cI cZ 0 nk pa nc fo th tg nt tb te tk tt (gex + 1) (gtc + 1) (-1) (((((gwy * 31) + ((fo i).toInt64)) * 31) + 10) + ((nI (kO (bt (th i)) nk j0)).toInt64)) ab re go be) H := hP
                              have hD : va_D A (w4 b cI cZ 0 nk pa nc fo th tg nt tb te tk tt (gex + 1) (gtc + 1) (-1) (((((gwy * 31) + ((fo i).toInt64)) * 31) + 10) + ((nI (kO (bt (th i)) nk j0)).toInt64)) ab re go be) := hD
                              refine lv_aload_n hx hb dX4_run_326 rfl (lv_at hl 1 rfl) ?_
                              refine va_get (D := (dC, dI)) (ci := 4) (v := .ref (b 8)) (C := RX4) (T := TX4) (N := 20) hx hb hts (by decide +kernel) hown hK hP 0 rfl rfl 11 (by decide) (hts (.fieldLink RX4 35 "HandlerOptimizerModel" "entryTargets" "[I") (by decide +kernel)) (fun _ h9 => h9) rfl dX4_run_327 ?_
                              refine lv_iload hx hb dX4_run_330 (lv_at hl 0 rfl) ?_
                              refine zz_top (y := nI (tkf T nt up i (kO (bt (th i)) nk j0))) (tkI_at q1) ?_
                              refine va_iald hx hb hK hP 8 0 rfl rfl (vp_in_nI (n := tkf T nt up i (kO (bt (th i)) nk j0)) (by omega) (by decide)) dX4_run_332 ?_
                              refine zz_top (y := tt (tkf T nt up i (kO (bt (th i)) nk j0))) (congrArg _ (nI_clamp (by omega))) ?_
                              refine zz_top (y := nI (T 3 (tkf T nt up i (kO (bt (th i)) nk j0)))) ((hT _ q1).2.2.2) ?_
                              refine lv_istore (lv' := [(6, .int (nI (T 3 (tkf T nt up i (kO (bt (th i)) nk j0))))), (11, .int (tkI T nt up i (kO (bt (th i)) nk j0))), (0, .ref (b 0)), (1, .long (lN X0)), (3, .int (nI M)), (4, .long (lN gX9)), (10, .int (nI (kO (bt (th i)) nk j0)))]) hx hb dX4_run_333 hl (by decide) rfl (fun ls hl => ?_)
                              refine lv_goto (tgt := 56) hx hb dX4_run_335 (by decide) ?_
                              exact ih_56 (y + 1) (nI (T 3 (tkf T nt up i (kO (bt (th i)) nk j0)))) gX9 (gex + 1) (gtc + 1) (((((gwy * 31) + ((fo i).toInt64)) * 31) + 10) + ((nI (kO (bt (th i)) nk j0)).toInt64)) _ _ _ (by omega) hX9 (by rw [hex]; exact nI_1 y) hq9 (by omega) hP hD hS (lv_sub hl [2, 3, 4, 5, 0] rfl)
                            · skip
                              have q1 := tkI_m1 (by omega) c_24
                              have hend := (hq.trans (rnS_s (f := (stS fo th tg nk T nt up)) hyM c9)).trans (rnS_0 (by simp only [stS, nI_clamp (show i < 2 ^ 31 by omega), opN]; rw [hoX1]; simp only [exS]; rw [if_neg c7, if_neg (by omega), ← hj0]; simp only [thS]; rw [if_neg q1]; exact hasI_m1 nc))
                              have hst : (stS fo th tg nk T nt up) ((nI i, gX, y, gtc, -1, gwy) : RS) = (-1, gX9, y + 1, gtc, nI (kO (bt (th i)) nk j0), (gwy * 31 + (fo i).toInt64) * 31 + 10 + (nI (kO (bt (th i)) nk j0)).toInt64) := by
                                simp only [stS, nI_clamp (show i < 2 ^ 31 by omega), opN]
                                rw [hoX1, hoX2]
                                simp only [exS]; rw [if_neg c7, if_neg (by omega), ← hj0]; simp only [thS]; rw [if_neg q1]
                              rw [hst] at hend
                              refine lv_aload_n hx hb dX4_run_308 rfl (lv_at hl 1 rfl) ?_
                              refine lv_iload hx hb dX4_run_309 (lv_at hl 6 rfl) ?_
                              refine va_put (D := (dC, dI)) (ci := 4) (v := .int (nI (kO (bt (th i)) nk j0))) (ty := .int) (C := RX4) (T := TX4) (N := 20) hx hb hts (by decide +kernel) tyX4 tyX4_ok nmX4 hown hK hP hD hS 0 rfl rfl 14 (by decide) (hts (.fieldLink RX4 38 "HandlerOptimizerModel" "escaped" "I") (by decide +kernel)) (fun _ h9 => h9) rfl (by decide +kernel) rfl rfl (Nat.le_of_ble_eq_true rfl) dX4_run_311 (fun H locs hP hD hS => ?_)
                              have hP : va_P (dC, dI) vwCl (w4 b cI cZ 0 nk pa nc fo th tg nt tb te tk tt (gex + 1) gtc (nI (kO (bt (th i)) nk j0)) (((((gwy * 31) + ((fo i).toInt64)) * 31) + 10) + ((nI (kO (bt (th i)) nk j0)).toInt64)) ab re go be) H := hP
                              have hD : va_D A (w4 b cI cZ 0 nk pa nc fo th tg nt tb te tk tt (gex + 1) gtc (nI (kO (bt (th i)) nk j0)) (((((gwy * 31) + ((fo i).toInt64)) * 31) + 10) + ((nI (kO (bt (th i)) nk j0)).toInt64)) ab re go be) := hD
                              refine lv_iconst (v := 1) hx hb dX4_run_314 (by decide) ?_
                              rw [← hQ]
                              have hP9 := hP
                              have hD9 := hD
                              exact W.iret (v := 1) hx hb hr (fun t ht hW => ⟨⟨1, (0, gex + 1, gtc, nI (kO (bt (th i)) nk j0), ((((gwy * 31) + ((fo i).toInt64)) * 31) + 10) + ((nI (kO (bt (th i)) nk j0)).toInt64)), rfl, (by rw [hend]; exact Or.inr ⟨hok, rfl, by simp only [ouS]; rw [if_neg (nI_ne_m1 (by omega))], by rw [hex]; exact nI_1 y, rfl⟩), (by rw [ht]; exact hP9), va_K.moved hW.alike hK, hD9⟩, hS.F ht⟩) hS.2.2 dX4_run_315
                          · skip
                            have c1 := zz_cdf c_22
                            obtain ⟨z, rfl⟩ : ∃ z, l9 = z + 1 := ⟨l9 - 1, by omega⟩
                            rw [nI_pred] at hl
                            refine lv_iinc (v := nI k9) (lv' := [(10, .int (nI k9)), (0, .ref (b 0)), (1, .long (lN X0)), (3, .int (nI M)), (4, .long (lN gX9)), (6, .int (nI i)), (11, .int (nI z))]) hx hb dX4_run_242 hl (k := 5) rfl (zz_incm k9) (by decide) rfl (fun ls hl => ?_)
                            have J_245 : ∀ (n9 : Nat) (kk : Nat) (H : Heap) (locs : List Loc) (ls : Array Slot), (kk < 8) → (ct (bt (th i)) kk = j0 - z) → 8 - kk < n9 → va_P (dC, dI) vwCl (w4 b cI cZ 0 nk pa nc fo th tg nt tb te tk tt (gex + 1) gtc (-1) ((gwy * 31) + ((fo i).toInt64)) ab re go be) H → va_D A (w4 b cI cZ 0 nk pa nc fo th tg nt tb te tk tt (gex + 1) gtc (-1) ((gwy * 31) + ((fo i).toInt64)) ab re go be) → va_S A s.heap H locs → lv_has ls 12 [(0, .ref (b 0)), (1, .long (lN X0)), (3, .int (nI M)), (4, .long (lN gX9)), (6, .int (nI i)), (10, .int (nI kk)), (11, .int (nI z))] → W p l e (headSpec wsX4_run ({ frames := 2, cells := 0, slots := 0, locals := 44 } : Room)).room s m args below meth c H locs 0 0 Q (F0 m 245 ls []) := by
                              intro n9
                              induction n9 with
                              | zero => intro kk H locs ls hkk hck hmu; exact absurd hmu (Nat.not_lt_zero _)
                              | succ n9 ih_245 =>
                                intro kk H locs ls hkk hck hmu hP hD hS hl
                                refine lv_aload_n hx hb dX4_run_245 rfl (lv_at hl 0 rfl) ?_
                                refine va_get (D := (dC, dI)) (ci := 4) (v := .ref (b 3)) (C := RX4) (T := TX4) (N := 20) hx hb hts (by decide +kernel) hown hK hP 0 rfl rfl 5 (by decide) (hts (.fieldLink RX4 20 "HandlerOptimizerModel" "errors" "[I") (by decide +kernel)) (fun _ h9 => h9) rfl dX4_run_246 ?_
                                refine lv_iload hx hb dX4_run_249 (lv_at hl 4 rfl) ?_
                                refine va_iald hx hb hK hP 3 0 rfl rfl (vp_in_nI (n := i) (by omega) (by decide)) dX4_run_251 ?_
                                refine zz_top (y := th i) (congrArg _ (nI_clamp (by omega))) ?_
                                refine lv_iload hx hb dX4_run_252 (lv_at hl 5 rfl) ?_
                                have hPc : va_P (dC, dI) vwCl [] H := fun k q h => by simp at h
                                refine va_calli (va_runS (As := [.int (th i), .int (nI kk)]) (rest := []) ⟨hx, hb, hml, hown, hts⟩ (c_X4_has l dC dI cI cZ cJ (th i) kk (by omega)) (va_cwS 2 hts gX4_run_X4_has rfl rfl rfl (by decide +kernel) ⟨Nat.le_of_ble_eq_true rfl, Nat.le_of_ble_eq_true rfl⟩) ⟨zPre_blind, zPre_at hPc hK hn⟩ rfl rfl hl.1 rfl (lv_room (Nat.le_of_ble_eq_true rfl)) dX4_run_254 ⟨Nat.le_of_ble_eq_true rfl, Nat.le_of_ble_eq_true rfl⟩) hS (fun _ _ h => h.elim) (fun _ h => h.elim) (fun r_25 u_9 t H locs ht hvm hw hB hz1 hk1 hS => ?_)
                                have hP := zkeep hP hk1
                                subst hw
                                refine lv_if_ne (tgt := 266) hx hb dX4_run_257 (by decide) (fun c_26 => ?_) (fun c_26 => ?_)
                                · skip
                                  have c20 := zb_1.mp c_26
                                  rw [← nI_pred kk] at hl
                                  refine lv_iinc (v := nI z - 1) (lv' := [(11, .int (nI z - 1)), (0, .ref (b 0)), (1, .long (lN X0)), (3, .int (nI M)), (4, .long (lN gX9)), (6, .int (nI i)), (10, .int (nI (kk + 1) - 1))]) hx hb dX4_run_266 hl (k := 6) rfl (zz_decm z) (by decide) rfl (fun ls hl => ?_)
                                  refine lv_goto (tgt := 237) hx hb dX4_run_269 (by decide) ?_
                                  exact ih_237 z (kk + 1) _ _ _ (by first | assumption | omega) (by first | assumption | omega) (by simp only [ct]; rw [c20]; simp only [if_true]; omega) (fun _ => ⟨by omega, by simpa using c20⟩) (by omega) hP hD hS (lv_sub hl [1, 2, 3, 4, 5, 6, 0] rfl)
                                · skip
                                  have c20 := zb_0.mp c_26
                                  refine lv_iinc (v := nI (kk + 1)) (lv' := [(10, .int (nI (kk + 1))), (0, .ref (b 0)), (1, .long (lN X0)), (3, .int (nI M)), (4, .long (lN gX9)), (6, .int (nI i)), (11, .int (nI z))]) hx hb dX4_run_260 hl (k := 5) rfl (zz_inc kk 1) (by decide) rfl (fun ls hl => ?_)
                                  refine lv_goto (tgt := 245) hx hb dX4_run_263 (by decide) ?_
                                  exact ih_245 (kk + 1) _ _ _ (by
                                          rcases Nat.lt_or_ge (kk + 1) 8 with q | q
                                          · exact q
                                          · have h6 : ct (bt (th i)) (kk + 1) = ct (bt (th i)) kk := by simp [ct, c20]
                                            have h7 : kk + 1 = 8 := by omega
                                            rw [h7] at h6; have h5 : bc (th i) = ct (bt (th i)) kk := h6; omega) (by simp only [ct]; rw [c20]; simp only [Bool.false_eq_true, if_false]; omega) (by omega) hP hD hS (lv_sub hl [1, 2, 3, 4, 5, 0, 6] rfl)
                            exact J_245 _ k9 _ _ _ (by
                                    rcases Nat.lt_or_ge k9 8 with q | q
                                    · exact q
                                    · have : k9 = 8 := by omega
                                      rw [this] at hct; have h5 : bc (th i) = j0 + 1 - (z + 1) := hct; omega) (by omega) (Nat.lt_succ_self _) hP hD hS (lv_sub hl [1, 2, 3, 4, 5, 0, 6] rfl)
                      exact J_237 _ (j0 + 1) 0 _ _ _ (by first | assumption | omega) (by first | assumption | omega) (by simp [ct]) (fun q => by omega) (Nat.lt_succ_self _) hP hD hS (lv_sub hl [6, 7, 8, 2, 9, 1, 0] rfl)
                    · skip
                      have c4 := (zz_gef (a := o9) (b := noN (fo i)) (by omega) (by omega)).mp c_21
                      refine lv_aload_n hx hb dX4_run_191 rfl (lv_at hl 4 rfl) ?_
                      refine va_get (D := (dC, dI)) (ci := 4) (v := .ref (b 2)) (C := RX4) (T := TX4) (N := 20) hx hb hts (by decide +kernel) hown hK hP 0 rfl rfl 4 (by decide) (hts (.fieldLink RX4 17 "HandlerOptimizerModel" "forms" "[I") (by decide +kernel)) (fun _ h9 => h9) rfl dX4_run_192 ?_
                      refine lv_iload hx hb dX4_run_195 (lv_at hl 7 rfl) ?_
                      refine va_iald hx hb hK hP 2 0 rfl rfl (vp_in_nI (n := i) (by omega) (by decide)) dX4_run_197 ?_
                      refine zz_top (y := fo i) (congrArg _ (nI_clamp (by omega))) ?_
                      refine lv_iconst (v := 1) hx hb dX4_run_198 (by decide) ?_
                      refine lv_icmp_eq (tgt := 208) hx hb dX4_run_199 (by decide) (fun c_27 => ?_) (fun c_27 => ?_)
                      · skip
                        have c3 : nnx (fo i) (tg i) i o9 = tg i := by simp [nnx, c_27]
                        have hst : (stS fo th tg nk T nt up) ((nI i, gX, y, gtc, -1, gwy) : RS) = (tg i, gX9, y + 1, gtc, -1, gwy * 31 + (fo i).toInt64) := by
                          simp only [stS, nI_clamp (show i < 2 ^ 31 by omega), opN]
                          rw [hoX1, hoX2]
                          simp only [exS]; rw [if_neg c7, if_pos c4, c3]
                        have hq9 := hq.trans (rnS_s (f := (stS fo th tg nk T nt up)) hyM c9)
                        rw [hst] at hq9
                        refine lv_aload_n hx hb dX4_run_208 rfl (lv_at hl 4 rfl) ?_
                        refine va_get (D := (dC, dI)) (ci := 4) (v := .ref (b 4)) (C := RX4) (T := TX4) (N := 20) hx hb hts (by decide +kernel) hown hK hP 0 rfl rfl 6 (by decide) (hts (.fieldLink RX4 23 "HandlerOptimizerModel" "targets" "[I") (by decide +kernel)) (fun _ h9 => h9) rfl dX4_run_209 ?_
                        refine lv_iload hx hb dX4_run_212 (lv_at hl 7 rfl) ?_
                        refine va_iald hx hb hK hP 4 0 rfl rfl (vp_in_nI (n := i) (by omega) (by decide)) dX4_run_214 ?_
                        refine zz_top (y := tg i) (congrArg _ (nI_clamp (by omega))) ?_
                        refine lv_goto (tgt := 222) hx hb dX4_run_215 (by decide) ?_
                        refine lv_istore (lv' := [(6, .int (tg i)), (4, .long (lN gX9)), (9, .int (nI o9)), (8, .int (nI ((noN (fo i)) + (bc (th i))))), (7, .int (nI (noN (fo i)))), (0, .ref (b 0)), (1, .long (lN X0)), (3, .int (nI M))]) hx hb dX4_run_222 hl (by decide) rfl (fun ls hl => ?_)
                        refine lv_goto (tgt := 56) hx hb dX4_run_224 (by decide) ?_
                        exact ih_56 (y + 1) (tg i) gX9 (gex + 1) gtc ((gwy * 31) + ((fo i).toInt64)) _ _ _ (by omega) hX9 (by rw [hex]; exact nI_1 y) hq9 (by omega) hP hD hS (lv_sub hl [5, 6, 7, 1, 0] rfl)
                      · skip
                        have c2 := c_27
                        refine lv_iload hx hb dX4_run_202 (lv_at hl 1 rfl) ?_
                        refine lv_iconst (v := 1) hx hb dX4_run_204 (by decide) ?_
                        refine lv_icmp_ne (tgt := 218) hx hb dX4_run_205 (by decide) (fun c_28 => ?_) (fun c_28 => ?_)
                        · skip
                          have c1 := (zz_net (a := o9) (b := 1) (by omega) (by omega)).mp c_28
                          have c3 : nnx (fo i) (tg i) i o9 = nI (i + 1) := by simp only [nnx]; rw [if_neg (by intro q; rcases q with q | q; exact c2 q; omega)]
                          have hst : (stS fo th tg nk T nt up) ((nI i, gX, y, gtc, -1, gwy) : RS) = (nI (i + 1), gX9, y + 1, gtc, -1, gwy * 31 + (fo i).toInt64) := by
                            simp only [stS, nI_clamp (show i < 2 ^ 31 by omega), opN]
                            rw [hoX1, hoX2]
                            simp only [exS]; rw [if_neg c7, if_pos c4, c3]
                          have hq9 := hq.trans (rnS_s (f := (stS fo th tg nk T nt up)) hyM c9)
                          rw [hst] at hq9
                          refine lv_iload hx hb dX4_run_218 (lv_at hl 7 rfl) ?_
                          refine lv_iconst (v := 1) hx hb dX4_run_220 (by decide) ?_
                          refine lv_iadd hx hb dX4_run_221 ?_
                          refine zz_top (y := nI (i + 1)) (nI_add _ _) ?_
                          refine lv_istore (lv' := [(6, .int (nI (i + 1))), (4, .long (lN gX9)), (9, .int (nI o9)), (8, .int (nI ((noN (fo i)) + (bc (th i))))), (7, .int (nI (noN (fo i)))), (0, .ref (b 0)), (1, .long (lN X0)), (3, .int (nI M))]) hx hb dX4_run_222 hl (by decide) rfl (fun ls hl => ?_)
                          refine lv_goto (tgt := 56) hx hb dX4_run_224 (by decide) ?_
                          exact ih_56 (y + 1) (nI (i + 1)) gX9 (gex + 1) gtc ((gwy * 31) + ((fo i).toInt64)) _ _ _ (by omega) hX9 (by rw [hex]; exact nI_1 y) hq9 (by omega) hP hD hS (lv_sub hl [5, 6, 7, 1, 0] rfl)
                        · skip
                          have c1 := (zz_nef (a := o9) (b := 1) (by omega) (by omega)).mp c_28
                          have c3 : nnx (fo i) (tg i) i o9 = tg i := by simp only [nnx]; rw [if_pos (Or.inr (by omega))]
                          have hst : (stS fo th tg nk T nt up) ((nI i, gX, y, gtc, -1, gwy) : RS) = (tg i, gX9, y + 1, gtc, -1, gwy * 31 + (fo i).toInt64) := by
                            simp only [stS, nI_clamp (show i < 2 ^ 31 by omega), opN]
                            rw [hoX1, hoX2]
                            simp only [exS]; rw [if_neg c7, if_pos c4, c3]
                          have hq9 := hq.trans (rnS_s (f := (stS fo th tg nk T nt up)) hyM c9)
                          rw [hst] at hq9
                          refine lv_aload_n hx hb dX4_run_208 rfl (lv_at hl 4 rfl) ?_
                          refine va_get (D := (dC, dI)) (ci := 4) (v := .ref (b 4)) (C := RX4) (T := TX4) (N := 20) hx hb hts (by decide +kernel) hown hK hP 0 rfl rfl 6 (by decide) (hts (.fieldLink RX4 23 "HandlerOptimizerModel" "targets" "[I") (by decide +kernel)) (fun _ h9 => h9) rfl dX4_run_209 ?_
                          refine lv_iload hx hb dX4_run_212 (lv_at hl 7 rfl) ?_
                          refine va_iald hx hb hK hP 4 0 rfl rfl (vp_in_nI (n := i) (by omega) (by decide)) dX4_run_214 ?_
                          refine zz_top (y := tg i) (congrArg _ (nI_clamp (by omega))) ?_
                          refine lv_goto (tgt := 222) hx hb dX4_run_215 (by decide) ?_
                          refine lv_istore (lv' := [(6, .int (tg i)), (4, .long (lN gX9)), (9, .int (nI o9)), (8, .int (nI ((noN (fo i)) + (bc (th i))))), (7, .int (nI (noN (fo i)))), (0, .ref (b 0)), (1, .long (lN X0)), (3, .int (nI M))]) hx hb dX4_run_222 hl (by decide) rfl (fun ls hl => ?_)
                          refine lv_goto (tgt := 56) hx hb dX4_run_224 (by decide) ?_
                          exact ih_56 (y + 1) (tg i) gX9 (gex + 1) gtc ((gwy * 31) + ((fo i).toInt64)) _ _ _ (by omega) hX9 (by rw [hex]; exact nI_1 y) hq9 (by omega) hP hD hS (lv_sub hl [5, 6, 7, 1, 0] rfl)
                · skip
                  have c6 : (0 : Int32) = nI (noN (fo i)) := by rw [show noN (fo i) = 0 from by simp [noN, c_9]]; rfl
                  refine lv_iconst (v := 0) hx hb dX4_run_130 (by decide) ?_
                  refine lv_goto (tgt := 150) hx hb dX4_run_131 (by decide) ?_
                  refine zz_top (y := nI (noN (fo i))) c6 ?_
                  refine lv_istore (lv' := [(7, .int (nI (noN (fo i)))), (0, .ref (b 0)), (1, .long (lN X0)), (3, .int (nI M)), (4, .long (lN gX)), (6, .int (nI i))]) hx hb dX4_run_150 hl (by decide) rfl (fun ls hl => ?_)
                  refine lv_iload hx hb dX4_run_152 (lv_at hl 0 rfl) ?_
                  refine lv_aload_n hx hb dX4_run_154 rfl (lv_at hl 1 rfl) ?_
                  refine va_get (D := (dC, dI)) (ci := 4) (v := .ref (b 3)) (C := RX4) (T := TX4) (N := 20) hx hb hts (by decide +kernel) hown hK hP 0 rfl rfl 5 (by decide) (hts (.fieldLink RX4 20 "HandlerOptimizerModel" "errors" "[I") (by decide +kernel)) (fun _ h9 => h9) rfl dX4_run_155 ?_
                  refine lv_iload hx hb dX4_run_158 (lv_at hl 5 rfl) ?_
                  refine va_iald hx hb hK hP 3 0 rfl rfl (vp_in_nI (n := i) (by omega) (by decide)) dX4_run_160 ?_
                  refine zz_top (y := th i) (congrArg _ (nI_clamp (by omega))) ?_
                  have hPc : va_P (dC, dI) vwCl [] H := fun k q h => by simp at h
                  refine va_calli (va_runS (As := [.int (th i)]) (rest := [.int (nI (noN (fo i)))]) ⟨hx, hb, hml, hown, hts⟩ (c_J6_bitCount_0f7a4 l dC dI cI cZ cJ (th i) ((hC i hi).2.1)) (va_cwS 1 hts gX4_run_J6_bitCount_0f7a4 rfl rfl rfl (by decide +kernel) ⟨Nat.le_of_ble_eq_true rfl, Nat.le_of_ble_eq_true rfl⟩) ⟨zPre_blind, zPre_at hPc hK hn⟩ rfl rfl hl.1 rfl (lv_room (Nat.le_of_ble_eq_true rfl)) dX4_run_161 ⟨Nat.le_of_ble_eq_true rfl, Nat.le_of_ble_eq_true rfl⟩) hS (fun _ _ h => h.elim) (fun _ h => h.elim) (fun r_29 u_9 t H locs ht hvm hw hB hz1 hk1 hS => ?_)
                  have hP := zkeep hP hk1
                  subst hw
                  refine lv_iadd hx hb dX4_run_164 ?_
                  refine zz_top (y := nI ((noN (fo i)) + (bc (th i)))) (nI_add _ _) ?_
                  refine lv_istore (lv' := [(8, .int (nI ((noN (fo i)) + (bc (th i))))), (7, .int (nI (noN (fo i)))), (0, .ref (b 0)), (1, .long (lN X0)), (3, .int (nI M)), (4, .long (lN gX)), (6, .int (nI i))]) hx hb dX4_run_165 hl (by decide) rfl (fun ls hl => ?_)
                  refine lv_lload hx hb dX4_run_167 (lv_at hl 5 rfl) ?_
                  refine lv_iload hx hb dX4_run_169 (lv_at hl 0 rfl) ?_
                  refine lv_i2l (v := (nI ((noN (fo i)) + (bc (th i)))).toInt64) hx hb dX4_run_171 rfl ?_
                  refine zz_topl (y := lN (noN (fo i) + bc (th i))) (nI_l (by omega)) ?_
                  refine lv_lrem hx hb dX4_run_172 (lN_ne0 hm0 (by omega)) ?_
                  refine zz_topl (y := lN o9) (by rw [ho9e]; exact pk_lRem hX hm0 (by omega)) ?_
                  refine lv_l2i (v := (lN o9).toInt32) hx hb dX4_run_173 rfl ?_
                  refine zz_top (y := nI o9) (lN_i _) ?_
                  refine lv_istore (lv' := [(9, .int (nI o9)), (8, .int (nI ((noN (fo i)) + (bc (th i))))), (7, .int (nI (noN (fo i)))), (0, .ref (b 0)), (1, .long (lN X0)), (3, .int (nI M)), (4, .long (lN gX)), (6, .int (nI i))]) hx hb dX4_run_174 hl (by decide) rfl (fun ls hl => ?_)
                  refine lv_lload hx hb dX4_run_176 (lv_at hl 6 rfl) ?_
                  refine lv_iload hx hb dX4_run_178 (lv_at hl 1 rfl) ?_
                  refine lv_i2l (v := (nI ((noN (fo i)) + (bc (th i)))).toInt64) hx hb dX4_run_180 rfl ?_
                  refine zz_topl (y := lN (noN (fo i) + bc (th i))) (nI_l (by omega)) ?_
                  refine lv_ldiv hx hb dX4_run_181 (lN_ne0 hm0 (by omega)) ?_
                  refine zz_topl (y := lN gX9) (by rw [hgX9]; exact pk_lDiv hX hm0 (by omega)) ?_
                  refine lv_lstore (lv' := [(4, .long (lN gX9)), (9, .int (nI o9)), (8, .int (nI ((noN (fo i)) + (bc (th i))))), (7, .int (nI (noN (fo i)))), (0, .ref (b 0)), (1, .long (lN X0)), (3, .int (nI M)), (6, .int (nI i))]) hx hb dX4_run_182 hl (by decide) rfl (fun ls hl => ?_)
                  refine lv_iload hx hb dX4_run_184 (lv_at hl 1 rfl) ?_
                  refine lv_iload hx hb dX4_run_186 (lv_at hl 3 rfl) ?_
                  refine lv_icmp_ge (tgt := 227) hx hb dX4_run_188 (by decide) (fun c_30 => ?_) (fun c_30 => ?_)
                  · skip
                    have c4 := (zz_get (a := o9) (b := noN (fo i)) (by omega) (by omega)).mp c_30
                    obtain ⟨j0, hj0⟩ : ∃ q, q = o9 - noN (fo i) := ⟨_, rfl⟩
                    have hjb : j0 < bc (th i) := by omega
                    refine lv_iconst (v := -1) hx hb dX4_run_227 (by decide) ?_
                    refine zz_top (y := nI 0 - 1) (by decide) ?_
                    refine lv_istore (lv' := [(10, .int (nI 0 - 1)), (4, .long (lN gX9)), (9, .int (nI o9)), (8, .int (nI ((noN (fo i)) + (bc (th i))))), (7, .int (nI (noN (fo i)))), (0, .ref (b 0)), (1, .long (lN X0)), (3, .int (nI M)), (6, .int (nI i))]) hx hb dX4_run_228 hl (by decide) rfl (fun ls hl => ?_)
                    refine lv_iload hx hb dX4_run_230 (lv_at hl 2 rfl) ?_
                    refine lv_iload hx hb dX4_run_232 (lv_at hl 4 rfl) ?_
                    refine lv_isub hx hb dX4_run_234 ?_
                    refine zz_top (y := nI (j0 + 1) - 1) (by rw [nI_pred, hj0]; exact zz_subn (by omega)) ?_
                    refine lv_istore (lv' := [(11, .int (nI (j0 + 1) - 1)), (10, .int (nI 0 - 1)), (4, .long (lN gX9)), (9, .int (nI o9)), (8, .int (nI ((noN (fo i)) + (bc (th i))))), (7, .int (nI (noN (fo i)))), (0, .ref (b 0)), (1, .long (lN X0)), (3, .int (nI M)), (6, .int (nI i))]) hx hb dX4_run_235 hl (by decide) rfl (fun ls hl => ?_)
                    have J_237 : ∀ (n9 : Nat) (l9 : Nat) (k9 : Nat) (H : Heap) (locs : List Loc) (ls : Array Slot), (l9 ≤ j0 + 1) → (k9 ≤ 8) → (ct (bt (th i)) k9 = j0 + 1 - l9) → (l9 ≤ j0 → 0 < k9 ∧ bt (th i) (k9 - 1) = true) → l9 < n9 → va_P (dC, dI) vwCl (w4 b cI cZ 0 nk pa nc fo th tg nt tb te tk tt (gex + 1) gtc (-1) ((gwy * 31) + ((fo i).toInt64)) ab re go be) H → va_D A (w4 b cI cZ 0 nk pa nc fo th tg nt tb te tk tt (gex + 1) gtc (-1) ((gwy * 31) + ((fo i).toInt64)) ab re go be) → va_S A s.heap H locs → lv_has ls 12 [(0, .ref (b 0)), (1, .long (lN X0)), (3, .int (nI M)), (4, .long (lN gX9)), (6, .int (nI i)), (10, .int (nI k9 - 1)), (11, .int (nI l9 - 1))] → W p l e (headSpec wsX4_run ({ frames := 2, cells := 0, slots := 0, locals := 44 } : Room)).room s m args below meth c H locs 0 0 Q (F0 m 237 ls []) := by
                      intro n9
                      induction n9 with
                      | zero => intro l9 k9 H locs ls hl9 hk9 hct hlast hmu; exact absurd hmu (Nat.not_lt_zero _)
                      | succ n9 ih_237 =>
                        intro l9 k9 H locs ls hl9 hk9 hct hlast hmu hP hD hS hl
                        refine lv_iload hx hb dX4_run_237 (lv_at hl 6 rfl) ?_
                        refine lv_if_lt (tgt := 272) hx hb dX4_run_239 (by decide) (fun c_31 => ?_) (fun c_31 => ?_)
                        · skip
                          have c1 := zz_cdt (by omega) c_31
                          obtain ⟨h10, h11⟩ := hlast (by omega)
                          have hkn : k9 - 1 < nk := by
                            rcases Nat.lt_or_ge (k9 - 1) nk with q | q
                            · exact q
                            · rw [(hC i hi).2.2.1 (k9 - 1) q (by omega)] at h11; cases h11
                          have hkO := kO_at h10 h11 (by rw [hct]; omega : ct (bt (th i)) k9 = j0 + 1) hkn
                          rw [hkO] at hl
                          have hkl : kO (bt (th i)) nk j0 < nk := kO_lt hk01
                          refine lv_aload_n hx hb dX4_run_272 rfl (lv_at hl 0 rfl) ?_
                          refine lv_aload_n hx hb dX4_run_273 rfl (lv_at hl 0 rfl) ?_
                          refine va_get (D := (dC, dI)) (ci := 4) (v := .long ((gwy * 31) + ((fo i).toInt64))) (C := RX4) (T := TX4) (N := 20) hx hb hts (by decide +kernel) hown hK hP 0 rfl rfl 15 (by decide) (hts (.fieldLink RX4 164 "HandlerOptimizerModel" "way" "J") (by decide +kernel)) (fun _ h9 => h9) rfl dX4_run_274 ?_
                          refine lv_ldc2 (own := RX4) (v := 31) hx hb hown (hts (.constantLong RX4 168 31) (by decide +kernel)) dX4_run_277 ?_
                          refine lv_lmul hx hb dX4_run_280 ?_
                          refine lv_ldc2 (own := RX4) (v := 10) hx hb hown (hts (.constantLong RX4 175 10) (by decide +kernel)) dX4_run_281 ?_
                          refine lv_ladd hx hb dX4_run_284 ?_
                          refine lv_iload hx hb dX4_run_285 (lv_at hl 5 rfl) ?_
                          refine lv_i2l (v := (nI (kO (bt (th i)) nk j0)).toInt64) hx hb dX4_run_287 rfl ?_
                          refine lv_ladd hx hb dX4_run_288 ?_
                          refine va_put (D := (dC, dI)) (ci := 4) (v := .long (((((gwy * 31) + ((fo i).toInt64)) * 31) + 10) + ((nI (kO (bt (th i)) nk j0)).toInt64))) (ty := .long) (C := RX4) (T := TX4) (N := 20) hx hb hts (by decide +kernel) tyX4 tyX4_ok nmX4 hown hK hP hD hS 0 rfl rfl 15 (by decide) (hts (.fieldLink RX4 164 "HandlerOptimizerModel" "way" "J") (by decide +kernel)) (fun _ h9 => h9) rfl (by decide +kernel) rfl rfl (Nat.le_of_ble_eq_true rfl) dX4_run_289 (fun H locs hP hD hS => ?_)
                          have hP : va_P (dC, dI) vwCl (w4 b cI cZ 0 nk pa nc fo th tg nt tb te tk tt (gex + 1) gtc (-1) (((((gwy * 31) + ((fo i).toInt64)) * 31) + 10) + ((nI (kO (bt (th i)) nk j0)).toInt64)) ab re go be) H := hP
                          have hD : va_D A (w4 b cI cZ 0 nk pa nc fo th tg nt tb te tk tt (gex + 1) gtc (-1) (((((gwy * 31) + ((fo i).toInt64)) * 31) + 10) + ((nI (kO (bt (th i)) nk j0)).toInt64)) ab re go be) := hD
                          refine lv_aload_n hx hb dX4_run_292 rfl (lv_at hl 0 rfl) ?_
                          refine lv_iload hx hb dX4_run_293 (lv_at hl 4 rfl) ?_
                          refine lv_iload hx hb dX4_run_295 (lv_at hl 5 rfl) ?_
                          refine va_calli (va_runV (As := [.int (nI i), .int (nI (kO (bt (th i)) nk j0))]) (rest := []) ⟨hx, hb, hml, hown, hts⟩ (c_X4_takerOf l dC dI cI cZ cJ b 0 nk pa nc fo th tg nt tb te tk tt (gex + 1) gtc (-1) (((((gwy * 31) + ((fo i).toInt64)) * 31) + 10) + ((nI (kO (bt (th i)) nk j0)).toInt64)) ab re go be i (kO (bt (th i)) nk j0) T up (by first | assumption | omega) (by first | assumption | omega) (by omega) (hkl)) (cwV 2 hts gX4_run_X4_takerOf rfl rfl rfl (by decide +kernel) ⟨Nat.le_of_ble_eq_true rfl, Nat.le_of_ble_eq_true rfl⟩) ⟨zPre_blind, va_recv hK hP (ci := 4) (q0 := 0) rfl rfl, zPre_at hP hK hn⟩ rfl rfl hl.1 rfl (lv_room (Nat.le_of_ble_eq_true rfl)) dX4_run_297 ⟨Nat.le_of_ble_eq_true rfl, Nat.le_of_ble_eq_true rfl⟩) hS (fun _ _ h => h.elim) (fun _ h => h.elim) (fun r_32 u_9 t H locs ht hvm hw hB hz1 hk1 hS => ?_)
                          have hP := zkeep hP hk1
                          subst hw
                          refine lv_istore (lv' := [(11, .int (tkI T nt up i (kO (bt (th i)) nk j0))), (0, .ref (b 0)), (1, .long (lN X0)), (3, .int (nI M)), (4, .long (lN gX9)), (6, .int (nI i)), (10, .int (nI (kO (bt (th i)) nk j0)))]) hx hb dX4_run_300 hl (by decide) rfl (fun ls hl => ?_)
                          refine lv_iload hx hb dX4_run_302 (lv_at hl 0 rfl) ?_
                          refine lv_iconst (v := -1) hx hb dX4_run_304 (by decide) ?_
                          refine lv_icmp_ne (tgt := 316) hx hb dX4_run_305 (by decide) (fun c_33 => ?_) (fun c_33 => ?_)
                          · skip
                            have q1 := tkI_lt (by omega) c_33
                            have hst : (stS fo th tg nk T nt up) ((nI i, gX, y, gtc, -1, gwy) : RS) = (nI (T 3 (tkf T nt up i (kO (bt (th i)) nk j0))), gX9, y + 1, gtc + 1, -1, (gwy * 31 + (fo i).toInt64) * 31 + 10 + (nI (kO (bt (th i)) nk j0)).toInt64) := by
                              simp only [stS, nI_clamp (show i < 2 ^ 31 by omega), opN]
                              rw [hoX1, hoX2]
                              simp only [exS]; rw [if_neg c7, if_neg (by omega), ← hj0]; simp only [thS]; rw [if_pos q1]
                            have hq9 := hq.trans (rnS_s (f := (stS fo th tg nk T nt up)) hyM c9)
                            rw [hst] at hq9
                            refine lv_aload_n hx hb dX4_run_316 rfl (lv_at hl 1 rfl) ?_
                            refine lv_dup hx hb dX4_run_317 rfl ?_
                            refine va_get (D := (dC, dI)) (ci := 4) (v := .int gtc) (C := RX4) (T := TX4) (N := 20) hx hb hts (by decide +kernel) hown hK hP 0 rfl rfl 13 (by decide) (hts (.fieldLink RX4 159 "HandlerOptimizerModel" "taken" "I") (by decide +kernel)) (fun _ h9 => h9) rfl dX4_run_318 ?_
                            refine lv_iconst (v := 1) hx hb dX4_run_321 (by decide) ?_
                            refine lv_iadd hx hb dX4_run_322 ?_
                            refine va_put (D := (dC, dI)) (ci := 4) (v := .int (gtc + 1)) (ty := .int) (C := RX4) (T := TX4) (N := 20) hx hb hts (by decide +kernel) tyX4 tyX4_ok nmX4 hown hK hP hD hS 0 rfl rfl 13 (by decide) (hts (.fieldLink RX4 159 "HandlerOptimizerModel" "taken" "I") (by decide +kernel)) (fun _ h9 => h9) rfl (by decide +kernel) rfl rfl (Nat.le_of_ble_eq_true rfl) dX4_run_323 (fun H locs hP hD hS => ?_)
                            have hP : va_P (dC, dI) vwCl (w4 b cI cZ 0 nk pa nc fo th tg nt tb te tk tt (gex + 1) (gtc + 1) (-1) (((((gwy * 31) + ((fo i).toInt64)) * 31) + 10) + ((nI (kO (bt (th i)) nk j0)).toInt64)) ab re go be) H := hP
                            have hD : va_D A (w4 b cI cZ 0 nk pa nc fo th tg nt tb te tk tt (gex + 1) (gtc + 1) (-1) (((((gwy * 31) + ((fo i).toInt64)) * 31) + 10) + ((nI (kO (bt (th i)) nk j0)).toInt64)) ab re go be) := hD
                            refine lv_aload_n hx hb dX4_run_326 rfl (lv_at hl 1 rfl) ?_
                            refine va_get (D := (dC, dI)) (ci := 4) (v := .ref (b 8)) (C := RX4) (T := TX4) (N := 20) hx hb hts (by decide +kernel) hown hK hP 0 rfl rfl 11 (by decide) (hts (.fieldLink RX4 35 "HandlerOptimizerModel" "entryTargets" "[I") (by decide +kernel)) (fun _ h9 => h9) rfl dX4_run_327 ?_
                            refine lv_iload hx hb dX4_run_330 (lv_at hl 0 rfl) ?_
                            refine zz_top (y := nI (tkf T nt up i (kO (bt (th i)) nk j0))) (tkI_at q1) ?_
                            refine va_iald hx hb hK hP 8 0 rfl rfl (vp_in_nI (n := tkf T nt up i (kO (bt (th i)) nk j0)) (by omega) (by decide)) dX4_run_332 ?_
                            refine zz_top (y := tt (tkf T nt up i (kO (bt (th i)) nk j0))) (congrArg _ (nI_clamp (by omega))) ?_
                            refine zz_top (y := nI (T 3 (tkf T nt up i (kO (bt (th i)) nk j0)))) ((hT _ q1).2.2.2) ?_
                            refine lv_istore (lv' := [(6, .int (nI (T 3 (tkf T nt up i (kO (bt (th i)) nk j0))))), (11, .int (tkI T nt up i (kO (bt (th i)) nk j0))), (0, .ref (b 0)), (1, .long (lN X0)), (3, .int (nI M)), (4, .long (lN gX9)), (10, .int (nI (kO (bt (th i)) nk j0)))]) hx hb dX4_run_333 hl (by decide) rfl (fun ls hl => ?_)
                            refine lv_goto (tgt := 56) hx hb dX4_run_335 (by decide) ?_
                            exact ih_56 (y + 1) (nI (T 3 (tkf T nt up i (kO (bt (th i)) nk j0)))) gX9 (gex + 1) (gtc + 1) (((((gwy * 31) + ((fo i).toInt64)) * 31) + 10) + ((nI (kO (bt (th i)) nk j0)).toInt64)) _ _ _ (by omega) hX9 (by rw [hex]; exact nI_1 y) hq9 (by omega) hP hD hS (lv_sub hl [2, 3, 4, 5, 0] rfl)
                          · skip
                            have q1 := tkI_m1 (by omega) c_33
                            have hend := (hq.trans (rnS_s (f := (stS fo th tg nk T nt up)) hyM c9)).trans (rnS_0 (by simp only [stS, nI_clamp (show i < 2 ^ 31 by omega), opN]; rw [hoX1]; simp only [exS]; rw [if_neg c7, if_neg (by omega), ← hj0]; simp only [thS]; rw [if_neg q1]; exact hasI_m1 nc))
                            have hst : (stS fo th tg nk T nt up) ((nI i, gX, y, gtc, -1, gwy) : RS) = (-1, gX9, y + 1, gtc, nI (kO (bt (th i)) nk j0), (gwy * 31 + (fo i).toInt64) * 31 + 10 + (nI (kO (bt (th i)) nk j0)).toInt64) := by
                              simp only [stS, nI_clamp (show i < 2 ^ 31 by omega), opN]
                              rw [hoX1, hoX2]
                              simp only [exS]; rw [if_neg c7, if_neg (by omega), ← hj0]; simp only [thS]; rw [if_neg q1]
                            rw [hst] at hend
                            refine lv_aload_n hx hb dX4_run_308 rfl (lv_at hl 1 rfl) ?_
                            refine lv_iload hx hb dX4_run_309 (lv_at hl 6 rfl) ?_
                            refine va_put (D := (dC, dI)) (ci := 4) (v := .int (nI (kO (bt (th i)) nk j0))) (ty := .int) (C := RX4) (T := TX4) (N := 20) hx hb hts (by decide +kernel) tyX4 tyX4_ok nmX4 hown hK hP hD hS 0 rfl rfl 14 (by decide) (hts (.fieldLink RX4 38 "HandlerOptimizerModel" "escaped" "I") (by decide +kernel)) (fun _ h9 => h9) rfl (by decide +kernel) rfl rfl (Nat.le_of_ble_eq_true rfl) dX4_run_311 (fun H locs hP hD hS => ?_)
                            have hP : va_P (dC, dI) vwCl (w4 b cI cZ 0 nk pa nc fo th tg nt tb te tk tt (gex + 1) gtc (nI (kO (bt (th i)) nk j0)) (((((gwy * 31) + ((fo i).toInt64)) * 31) + 10) + ((nI (kO (bt (th i)) nk j0)).toInt64)) ab re go be) H := hP
                            have hD : va_D A (w4 b cI cZ 0 nk pa nc fo th tg nt tb te tk tt (gex + 1) gtc (nI (kO (bt (th i)) nk j0)) (((((gwy * 31) + ((fo i).toInt64)) * 31) + 10) + ((nI (kO (bt (th i)) nk j0)).toInt64)) ab re go be) := hD
                            refine lv_iconst (v := 1) hx hb dX4_run_314 (by decide) ?_
                            rw [← hQ]
                            have hP9 := hP
                            have hD9 := hD
                            exact W.iret (v := 1) hx hb hr (fun t ht hW => ⟨⟨1, (0, gex + 1, gtc, nI (kO (bt (th i)) nk j0), ((((gwy * 31) + ((fo i).toInt64)) * 31) + 10) + ((nI (kO (bt (th i)) nk j0)).toInt64)), rfl, (by rw [hend]; exact Or.inr ⟨hok, rfl, by simp only [ouS]; rw [if_neg (nI_ne_m1 (by omega))], by rw [hex]; exact nI_1 y, rfl⟩), (by rw [ht]; exact hP9), va_K.moved hW.alike hK, hD9⟩, hS.F ht⟩) hS.2.2 dX4_run_315
                        · skip
                          have c1 := zz_cdf c_31
                          obtain ⟨z, rfl⟩ : ∃ z, l9 = z + 1 := ⟨l9 - 1, by omega⟩
                          rw [nI_pred] at hl
                          refine lv_iinc (v := nI k9) (lv' := [(10, .int (nI k9)), (0, .ref (b 0)), (1, .long (lN X0)), (3, .int (nI M)), (4, .long (lN gX9)), (6, .int (nI i)), (11, .int (nI z))]) hx hb dX4_run_242 hl (k := 5) rfl (zz_incm k9) (by decide) rfl (fun ls hl => ?_)
                          have J_245 : ∀ (n9 : Nat) (kk : Nat) (H : Heap) (locs : List Loc) (ls : Array Slot), (kk < 8) → (ct (bt (th i)) kk = j0 - z) → 8 - kk < n9 → va_P (dC, dI) vwCl (w4 b cI cZ 0 nk pa nc fo th tg nt tb te tk tt (gex + 1) gtc (-1) ((gwy * 31) + ((fo i).toInt64)) ab re go be) H → va_D A (w4 b cI cZ 0 nk pa nc fo th tg nt tb te tk tt (gex + 1) gtc (-1) ((gwy * 31) + ((fo i).toInt64)) ab re go be) → va_S A s.heap H locs → lv_has ls 12 [(0, .ref (b 0)), (1, .long (lN X0)), (3, .int (nI M)), (4, .long (lN gX9)), (6, .int (nI i)), (10, .int (nI kk)), (11, .int (nI z))] → W p l e (headSpec wsX4_run ({ frames := 2, cells := 0, slots := 0, locals := 44 } : Room)).room s m args below meth c H locs 0 0 Q (F0 m 245 ls []) := by
                            intro n9
                            induction n9 with
                            | zero => intro kk H locs ls hkk hck hmu; exact absurd hmu (Nat.not_lt_zero _)
                            | succ n9 ih_245 =>
                              intro kk H locs ls hkk hck hmu hP hD hS hl
                              refine lv_aload_n hx hb dX4_run_245 rfl (lv_at hl 0 rfl) ?_
                              refine va_get (D := (dC, dI)) (ci := 4) (v := .ref (b 3)) (C := RX4) (T := TX4) (N := 20) hx hb hts (by decide +kernel) hown hK hP 0 rfl rfl 5 (by decide) (hts (.fieldLink RX4 20 "HandlerOptimizerModel" "errors" "[I") (by decide +kernel)) (fun _ h9 => h9) rfl dX4_run_246 ?_
                              refine lv_iload hx hb dX4_run_249 (lv_at hl 4 rfl) ?_
                              refine va_iald hx hb hK hP 3 0 rfl rfl (vp_in_nI (n := i) (by omega) (by decide)) dX4_run_251 ?_
                              refine zz_top (y := th i) (congrArg _ (nI_clamp (by omega))) ?_
                              refine lv_iload hx hb dX4_run_252 (lv_at hl 5 rfl) ?_
                              have hPc : va_P (dC, dI) vwCl [] H := fun k q h => by simp at h
                              refine va_calli (va_runS (As := [.int (th i), .int (nI kk)]) (rest := []) ⟨hx, hb, hml, hown, hts⟩ (c_X4_has l dC dI cI cZ cJ (th i) kk (by omega)) (va_cwS 2 hts gX4_run_X4_has rfl rfl rfl (by decide +kernel) ⟨Nat.le_of_ble_eq_true rfl, Nat.le_of_ble_eq_true rfl⟩) ⟨zPre_blind, zPre_at hPc hK hn⟩ rfl rfl hl.1 rfl (lv_room (Nat.le_of_ble_eq_true rfl)) dX4_run_254 ⟨Nat.le_of_ble_eq_true rfl, Nat.le_of_ble_eq_true rfl⟩) hS (fun _ _ h => h.elim) (fun _ h => h.elim) (fun r_34 u_9 t H locs ht hvm hw hB hz1 hk1 hS => ?_)
                              have hP := zkeep hP hk1
                              subst hw
                              refine lv_if_ne (tgt := 266) hx hb dX4_run_257 (by decide) (fun c_35 => ?_) (fun c_35 => ?_)
                              · skip
                                have c20 := zb_1.mp c_35
                                rw [← nI_pred kk] at hl
                                refine lv_iinc (v := nI z - 1) (lv' := [(11, .int (nI z - 1)), (0, .ref (b 0)), (1, .long (lN X0)), (3, .int (nI M)), (4, .long (lN gX9)), (6, .int (nI i)), (10, .int (nI (kk + 1) - 1))]) hx hb dX4_run_266 hl (k := 6) rfl (zz_decm z) (by decide) rfl (fun ls hl => ?_)
                                refine lv_goto (tgt := 237) hx hb dX4_run_269 (by decide) ?_
                                exact ih_237 z (kk + 1) _ _ _ (by first | assumption | omega) (by first | assumption | omega) (by simp only [ct]; rw [c20]; simp only [if_true]; omega) (fun _ => ⟨by omega, by simpa using c20⟩) (by omega) hP hD hS (lv_sub hl [1, 2, 3, 4, 5, 6, 0] rfl)
                              · skip
                                have c20 := zb_0.mp c_35
                                refine lv_iinc (v := nI (kk + 1)) (lv' := [(10, .int (nI (kk + 1))), (0, .ref (b 0)), (1, .long (lN X0)), (3, .int (nI M)), (4, .long (lN gX9)), (6, .int (nI i)), (11, .int (nI z))]) hx hb dX4_run_260 hl (k := 5) rfl (zz_inc kk 1) (by decide) rfl (fun ls hl => ?_)
                                refine lv_goto (tgt := 245) hx hb dX4_run_263 (by decide) ?_
                                exact ih_245 (kk + 1) _ _ _ (by
                                        rcases Nat.lt_or_ge (kk + 1) 8 with q | q
                                        · exact q
                                        · have h6 : ct (bt (th i)) (kk + 1) = ct (bt (th i)) kk := by simp [ct, c20]
                                          have h7 : kk + 1 = 8 := by omega
                                          rw [h7] at h6; have h5 : bc (th i) = ct (bt (th i)) kk := h6; omega) (by simp only [ct]; rw [c20]; simp only [Bool.false_eq_true, if_false]; omega) (by omega) hP hD hS (lv_sub hl [1, 2, 3, 4, 5, 0, 6] rfl)
                          exact J_245 _ k9 _ _ _ (by
                                  rcases Nat.lt_or_ge k9 8 with q | q
                                  · exact q
                                  · have : k9 = 8 := by omega
                                    rw [this] at hct; have h5 : bc (th i) = j0 + 1 - (z + 1) := hct; omega) (by omega) (Nat.lt_succ_self _) hP hD hS (lv_sub hl [1, 2, 3, 4, 5, 0, 6] rfl)
                    exact J_237 _ (j0 + 1) 0 _ _ _ (by first | assumption | omega) (by first | assumption | omega) (by simp [ct]) (fun q => by omega) (Nat.lt_succ_self _) hP hD hS (lv_sub hl [6, 7, 8, 2, 9, 1, 0] rfl)
                  · skip
                    have c4 := (zz_gef (a := o9) (b := noN (fo i)) (by omega) (by omega)).mp c_30
                    refine lv_aload_n hx hb dX4_run_191 rfl (lv_at hl 4 rfl) ?_
                    refine va_get (D := (dC, dI)) (ci := 4) (v := .ref (b 2)) (C := RX4) (T := TX4) (N := 20) hx hb hts (by decide +kernel) hown hK hP 0 rfl rfl 4 (by decide) (hts (.fieldLink RX4 17 "HandlerOptimizerModel" "forms" "[I") (by decide +kernel)) (fun _ h9 => h9) rfl dX4_run_192 ?_
                    refine lv_iload hx hb dX4_run_195 (lv_at hl 7 rfl) ?_
                    refine va_iald hx hb hK hP 2 0 rfl rfl (vp_in_nI (n := i) (by omega) (by decide)) dX4_run_197 ?_
                    refine zz_top (y := fo i) (congrArg _ (nI_clamp (by omega))) ?_
                    refine lv_iconst (v := 1) hx hb dX4_run_198 (by decide) ?_
                    refine lv_icmp_eq (tgt := 208) hx hb dX4_run_199 (by decide) (fun c_36 => ?_) (fun c_36 => ?_)
                    · skip
                      have c3 : nnx (fo i) (tg i) i o9 = tg i := by simp [nnx, c_36]
                      have hst : (stS fo th tg nk T nt up) ((nI i, gX, y, gtc, -1, gwy) : RS) = (tg i, gX9, y + 1, gtc, -1, gwy * 31 + (fo i).toInt64) := by
                        simp only [stS, nI_clamp (show i < 2 ^ 31 by omega), opN]
                        rw [hoX1, hoX2]
                        simp only [exS]; rw [if_neg c7, if_pos c4, c3]
                      have hq9 := hq.trans (rnS_s (f := (stS fo th tg nk T nt up)) hyM c9)
                      rw [hst] at hq9
                      refine lv_aload_n hx hb dX4_run_208 rfl (lv_at hl 4 rfl) ?_
                      refine va_get (D := (dC, dI)) (ci := 4) (v := .ref (b 4)) (C := RX4) (T := TX4) (N := 20) hx hb hts (by decide +kernel) hown hK hP 0 rfl rfl 6 (by decide) (hts (.fieldLink RX4 23 "HandlerOptimizerModel" "targets" "[I") (by decide +kernel)) (fun _ h9 => h9) rfl dX4_run_209 ?_
                      refine lv_iload hx hb dX4_run_212 (lv_at hl 7 rfl) ?_
                      refine va_iald hx hb hK hP 4 0 rfl rfl (vp_in_nI (n := i) (by omega) (by decide)) dX4_run_214 ?_
                      refine zz_top (y := tg i) (congrArg _ (nI_clamp (by omega))) ?_
                      refine lv_goto (tgt := 222) hx hb dX4_run_215 (by decide) ?_
                      refine lv_istore (lv' := [(6, .int (tg i)), (4, .long (lN gX9)), (9, .int (nI o9)), (8, .int (nI ((noN (fo i)) + (bc (th i))))), (7, .int (nI (noN (fo i)))), (0, .ref (b 0)), (1, .long (lN X0)), (3, .int (nI M))]) hx hb dX4_run_222 hl (by decide) rfl (fun ls hl => ?_)
                      refine lv_goto (tgt := 56) hx hb dX4_run_224 (by decide) ?_
                      exact ih_56 (y + 1) (tg i) gX9 (gex + 1) gtc ((gwy * 31) + ((fo i).toInt64)) _ _ _ (by omega) hX9 (by rw [hex]; exact nI_1 y) hq9 (by omega) hP hD hS (lv_sub hl [5, 6, 7, 1, 0] rfl)
                    · skip
                      have c2 := c_36
                      refine lv_iload hx hb dX4_run_202 (lv_at hl 1 rfl) ?_
                      refine lv_iconst (v := 1) hx hb dX4_run_204 (by decide) ?_
                      refine lv_icmp_ne (tgt := 218) hx hb dX4_run_205 (by decide) (fun c_37 => ?_) (fun c_37 => ?_)
                      · skip
                        have c1 := (zz_net (a := o9) (b := 1) (by omega) (by omega)).mp c_37
                        have c3 : nnx (fo i) (tg i) i o9 = nI (i + 1) := by simp only [nnx]; rw [if_neg (by intro q; rcases q with q | q; exact c2 q; omega)]
                        have hst : (stS fo th tg nk T nt up) ((nI i, gX, y, gtc, -1, gwy) : RS) = (nI (i + 1), gX9, y + 1, gtc, -1, gwy * 31 + (fo i).toInt64) := by
                          simp only [stS, nI_clamp (show i < 2 ^ 31 by omega), opN]
                          rw [hoX1, hoX2]
                          simp only [exS]; rw [if_neg c7, if_pos c4, c3]
                        have hq9 := hq.trans (rnS_s (f := (stS fo th tg nk T nt up)) hyM c9)
                        rw [hst] at hq9
                        refine lv_iload hx hb dX4_run_218 (lv_at hl 7 rfl) ?_
                        refine lv_iconst (v := 1) hx hb dX4_run_220 (by decide) ?_
                        refine lv_iadd hx hb dX4_run_221 ?_
                        refine zz_top (y := nI (i + 1)) (nI_add _ _) ?_
                        refine lv_istore (lv' := [(6, .int (nI (i + 1))), (4, .long (lN gX9)), (9, .int (nI o9)), (8, .int (nI ((noN (fo i)) + (bc (th i))))), (7, .int (nI (noN (fo i)))), (0, .ref (b 0)), (1, .long (lN X0)), (3, .int (nI M))]) hx hb dX4_run_222 hl (by decide) rfl (fun ls hl => ?_)
                        refine lv_goto (tgt := 56) hx hb dX4_run_224 (by decide) ?_
                        exact ih_56 (y + 1) (nI (i + 1)) gX9 (gex + 1) gtc ((gwy * 31) + ((fo i).toInt64)) _ _ _ (by omega) hX9 (by rw [hex]; exact nI_1 y) hq9 (by omega) hP hD hS (lv_sub hl [5, 6, 7, 1, 0] rfl)
                      · skip
                        have c1 := (zz_nef (a := o9) (b := 1) (by omega) (by omega)).mp c_37
                        have c3 : nnx (fo i) (tg i) i o9 = tg i := by simp only [nnx]; rw [if_pos (Or.inr (by omega))]
                        have hst : (stS fo th tg nk T nt up) ((nI i, gX, y, gtc, -1, gwy) : RS) = (tg i, gX9, y + 1, gtc, -1, gwy * 31 + (fo i).toInt64) := by
                          simp only [stS, nI_clamp (show i < 2 ^ 31 by omega), opN]
                          rw [hoX1, hoX2]
                          simp only [exS]; rw [if_neg c7, if_pos c4, c3]
                        have hq9 := hq.trans (rnS_s (f := (stS fo th tg nk T nt up)) hyM c9)
                        rw [hst] at hq9
                        refine lv_aload_n hx hb dX4_run_208 rfl (lv_at hl 4 rfl) ?_
                        refine va_get (D := (dC, dI)) (ci := 4) (v := .ref (b 4)) (C := RX4) (T := TX4) (N := 20) hx hb hts (by decide +kernel) hown hK hP 0 rfl rfl 6 (by decide) (hts (.fieldLink RX4 23 "HandlerOptimizerModel" "targets" "[I") (by decide +kernel)) (fun _ h9 => h9) rfl dX4_run_209 ?_
                        refine lv_iload hx hb dX4_run_212 (lv_at hl 7 rfl) ?_
                        refine va_iald hx hb hK hP 4 0 rfl rfl (vp_in_nI (n := i) (by omega) (by decide)) dX4_run_214 ?_
                        refine zz_top (y := tg i) (congrArg _ (nI_clamp (by omega))) ?_
                        refine lv_goto (tgt := 222) hx hb dX4_run_215 (by decide) ?_
                        refine lv_istore (lv' := [(6, .int (tg i)), (4, .long (lN gX9)), (9, .int (nI o9)), (8, .int (nI ((noN (fo i)) + (bc (th i))))), (7, .int (nI (noN (fo i)))), (0, .ref (b 0)), (1, .long (lN X0)), (3, .int (nI M))]) hx hb dX4_run_222 hl (by decide) rfl (fun ls hl => ?_)
                        refine lv_goto (tgt := 56) hx hb dX4_run_224 (by decide) ?_
                        exact ih_56 (y + 1) (tg i) gX9 (gex + 1) gtc ((gwy * 31) + ((fo i).toInt64)) _ _ _ (by omega) hX9 (by rw [hex]; exact nI_1 y) hq9 (by omega) hP hD hS (lv_sub hl [5, 6, 7, 1, 0] rfl)
              · skip
                have c7 := c_8
                have hst : (stS fo th tg nk T nt up) ((nI i, gX, y, gtc, -1, gwy) : RS) = (-1, gX9, y + 1, gtc, -1, gwy * 31 + (fo i).toInt64) := by
                  simp only [stS, nI_clamp (show i < 2 ^ 31 by omega), opN]
                  rw [hoX1, hoX2]
                  simp [exS, c7]
                have hq9 := hq.trans (rnS_s (f := (stS fo th tg nk T nt up)) hyM c9)
                rw [hst] at hq9
                have hend := hq9.trans (rnS_0 (hasI_m1 nc))
                refine lv_iconst (v := 0) hx hb dX4_run_117 (by decide) ?_
                rw [← hQ]
                have hP9 := hP
                have hD9 := hD
                exact W.iret (v := 0) hx hb hr (fun t ht hW => ⟨⟨0, (0, gex + 1, gtc, -1, (gwy * 31) + ((fo i).toInt64)), rfl, (by rw [hend]; exact Or.inr ⟨hok, rfl, by simp [ouS, hasI_m1], by rw [hex]; exact nI_1 y, rfl⟩), (by rw [ht]; exact hP9), va_K.moved hW.alike hK, hD9⟩, hS.F ht⟩) hS.2.2 dX4_run_118
            · skip
              have hend : rnS nc (stS fo th tg nk T nt up) M ((0, X0, 0, 0, -1, 7) : RS) = ((nI i, gX, y, gtc, -1, gwy) : RS) := by
                rw [hex] at c_7
                have := (nI_eq (by omega) (by omega)).mp c_7
                rw [hq, show M - y = 0 from by omega]; rfl
              refine lv_iconst (v := 2) hx hb dX4_run_73 (by decide) ?_
              rw [← hQ]
              have hP9 := hP
              have hD9 := hD
              exact W.iret (v := 2) hx hb hr (fun t ht hW => ⟨⟨2, (0, gex, gtc, -1, gwy), rfl, (by rw [hend]; exact Or.inr ⟨hok, rfl, by simp [ouS, c9], hex, rfl⟩), (by rw [ht]; exact hP9), va_K.moved hW.alike hK, hD9⟩, hS.F ht⟩) hS.2.2 dX4_run_74
      exact J_56 _ 0 0 X0 0 0 7 _ _ _ (by first | assumption | omega) (by first | assumption | omega) rfl rfl (Nat.lt_succ_self _) hP hD hS (lv_sub hl [2, 3, 4, 1, 0] rfl)
    · skip
      have c9 : rOK ch mo = false := by have q := zb_0.mp c_4; simp only [rOK, Bool.and_assoc]; rw [q]; exact Bool.and_false _
      refine lv_aload_n hx hb dX4_run_22 rfl (lv_at hl 0 rfl) ?_
      refine lv_iconst (v := 1) hx hb dX4_run_23 (by decide) ?_
      have hDc := hD
      have hFc := va_free (wc := w4 b cI cZ 0 nk pa nc fo th tg nt tb te tk tt ex tc es wy ab re go be) hD hS hA [0, 1, 2, 3, 4, 5, 6, 7, 8, 9, 10, 11, 12] rfl
      refine va_calli (va_runV (As := [.int 1]) (rest := []) ⟨hx, hb, hml, hown, hts⟩ (c_X4_no l dC dI cI cZ cJ b 0 nk pa nc fo th tg nt tb te tk tt ex tc es wy ab re go be 1 H.size ) (cwV 1 hts gX4_run_X4_no rfl rfl rfl (by decide +kernel) ⟨Nat.le_of_ble_eq_true rfl, Nat.le_of_ble_eq_true rfl⟩) ⟨zWr_blind, va_recv hK hP (ci := 4) (q0 := 0) rfl rfl, zWr_at hP hK hn (hDc.weaken (fun _ _ _ _ => trivial))⟩ rfl rfl hl.1 rfl (lv_room (Nat.le_of_ble_eq_true rfl)) dX4_run_24 ⟨Nat.le_of_ble_eq_true rfl, Nat.le_of_ble_eq_true rfl⟩) hS (fun q _ h => hFc q h) hFc (fun r_38 u_9 t H1 locs ht hvm hw hB hz1 hk1 hS => ?_)
      obtain ⟨hP1, -, hD1⟩ := hB
      rw [ht] at hP1
      obtain ⟨hP, hD⟩ := va_join (wr := []) (w1 := w4 b cI cZ 1 nk pa nc fo th tg nt tb te tk tt ex tc es wy ab re go be) hP hD [0, 1, 2, 3, 4, 5, 6, 7, 8, 9, 10, 11, 12] [] rfl rfl (by decide) (by decide) hk1 hFc hP1 hD1
      generalize H1 = H at hP hS ⊢
      have hP : va_P (dC, dI) vwCl (w4 b cI cZ 1 nk pa nc fo th tg nt tb te tk tt ex tc es wy ab re go be) H := hP
      have hD : va_D A (w4 b cI cZ 1 nk pa nc fo th tg nt tb te tk tt ex tc es wy ab re go be) := hD
      subst hw
      rw [← hQ]
      have hP9 := hP
      have hD9 := hD
      exact W.iret (v := 0) hx hb hr (fun t ht hW => ⟨⟨0, (1, ex, tc, es, wy), rfl, (Or.inl ⟨c9, rfl, rfl, rfl, rfl, rfl⟩), (by rw [ht]; exact hP9), va_K.moved hW.alike hK, hD9⟩, hS.F ht⟩) hS.2.2 dX4_run_27

def up0 : Nat → Nat → Bool := fun k h => decide (k = 0) && decide (h = 0)
theorem up0_ok : okU 1 up0 := fun k h q => by
  simp [up0] at q
  omega
theorem g3_0 : g3 1 (upd (fun _ => 0) 0 1) up0 0 (fun _ => 0) (fun _ => 0) (fun _ => 0) (fun _ => 0) (fun _ _ => 0) := ⟨Nat.le_refl _, by decide, by decide, fun x h => absurd h (Nat.not_lt_zero _), fun x h => absurd h (Nat.not_lt_zero _), fun h hh k hk => by
  have e0 : h = 0 := by omega
  subst e0
  exact (by decide : ∀ k, k < 8 → bt (upd (fun _ => (0 : Int32)) 0 1 0) k = up0 k 0) k hk, up0_ok⟩
theorem g4_0 : g4 1 (upd (fun _ => 0) 0 1) up0 0 (fun _ => 0) (fun _ => 0) (fun _ => 0) (fun _ => 0) (fun _ _ => 0) := ⟨Nat.le_refl _, by decide, by decide, fun x h => absurd h (Nat.not_lt_zero _), fun x h => absurd h (Nat.not_lt_zero _), fun k hk h hh => by
  have e0 : k = 0 := by omega
  subst e0
  exact (by decide : ∀ h, h < 8 → bt (upd (fun _ => (0 : Int32)) 0 1 0) h = up0 0 h) h hh, up0_ok⟩
theorem okC_0 : okC 1 0 (fun _ => 0) (fun _ => 0) (fun _ => 0) := ⟨by decide, fun x h => absurd h (Nat.not_lt_zero _)⟩
theorem zn_tbl : ∀ w ∈ zn_l, w ∈ lw_tbl := by decide +kernel
theorem zw_tbl : ∀ w ∈ zw_l, w ∈ lw_tbl := by decide +kernel
theorem zs_tbl : ∀ q ∈ zs_l, Cond.stringRef RX3 q.1 q.2 ∈ lw_tbl := by decide +kernel
theorem zs_nar : ∀ q ∈ zs_l, Cond.exactly (.string RX3 q.1) "java/lang/String" ∈ flatC (Jvm.Cond.and given_1 narrow_1) := by decide +kernel
theorem zk_arr {s : State} {args : Array Value} {ty : FieldType} (h : (Cond.arrayClass ty).before args s = true) : ∃ cA : ClassId, ArrOfT s cA ty ∧ s.vm.findClass ("[" ++ ty.toString) = some cA := by
  obtain ⟨cA, kA, comp, h1, h2, h3⟩ := Cond.arrayClass_spec h
  exact ⟨cA, fun n z => ⟨fun k h => (by cases h), kA, h2, comp, h3⟩, h1⟩
theorem zk_all {s : State} {args : Array Value} (hts0 : ∀ w ∈ lw_tbl, w.before args s = true) : ∃ (dC : Nat → ClassId) (dI : Nat → Nat → Nat) (cI cZ cJ : ClassId), va_K (dC, dI) vwCl [(cI, .int), (cZ, .boolean), (cJ, .long)] s := by
  obtain ⟨c0, i0, k0⟩ := u_known hts0 inX0 (hts0 (.instantiable RX0 4) (by decide +kernel))
  obtain ⟨c1, i1, k1⟩ := u_known hts0 inX1 (hts0 (.instantiable RX1 3) (by decide +kernel))
  obtain ⟨c2, i2, k2⟩ := u_known hts0 inX2 (hts0 (.instantiable RX2 5) (by decide +kernel))
  obtain ⟨c3, i3, k3⟩ := u_known hts0 inX3 (hts0 (.instantiable RX3 15) (by decide +kernel))
  obtain ⟨c4, i4, k4⟩ := u_known hts0 inX4 (hts0 (.instantiable RX4 20) (by decide +kernel))
  obtain ⟨cI, hI1, hI2⟩ := zk_arr (hts0 (.arrayClass .int) (by decide +kernel))
  obtain ⟨cZ, hZ1, hZ2⟩ := zk_arr (hts0 (.arrayClass .boolean) (by decide +kernel))
  obtain ⟨cJ, hJ1, hJ2⟩ := zk_arr (hts0 (.arrayClass .long) (by decide +kernel))
  refine ⟨fun n => [c0, c1, c2, c3, c4].getD n c0, fun n => [i0, i1, i2, i3, i4].getD n i0, cI, cZ, cJ, fun x q hq => ?_, fun x q hq => ?_⟩
  · rcases x with _ | _ | _ | _ | _ | x
    · have h9 : some (RX0, TX0, 4) = some q := hq
      cases h9; exact k0
    · have h9 : some (RX1, TX1, 3) = some q := hq
      cases h9; exact k1
    · have h9 : some (RX2, TX2, 5) = some q := hq
      cases h9; exact k2
    · have h9 : some (RX3, TX3, 15) = some q := hq
      cases h9; exact k3
    · have h9 : some (RX4, TX4, 20) = some q := hq
      cases h9; exact k4
    · have h9 : none = some q := hq
      cases h9
  · rcases x with _ | _ | _ | x
    · have h9 : some (cI, FieldType.int) = some q := hq
      cases h9; exact ⟨hI1, hI2⟩
    · have h9 : some (cZ, FieldType.boolean) = some q := hq
      cases h9; exact ⟨hZ1, hZ2⟩
    · have h9 : some (cJ, FieldType.long) = some q := hq
      cases h9; exact ⟨hJ1, hJ2⟩
    · have h9 : none = some q := hq
      cases h9
set_option maxHeartbeats 4000000 in
set_option maxRecDepth 100000 in
theorem whole_start0 {p : Program} {e : Env} {s : State} {m : MethodId} {below : List Frame} {meth : Method} {c : Code} (l : Launch) (hflags : l.flags = flags0) {sb L : Nat} {xs : Nat → Int32} (hL : L ≤ 2560) (C0 : lw_At p s m meth c sb L xs) : W p l e room_1 s m #[Value.ref sb] below meth c s.heap [] 0 0 (lw_Z below #[Value.ref sb] s) (entryFrame m ([Value.ref sb] : List Value).toArray 9) := by
  obtain ⟨hx, hb, hr, hml, hown, hts0, hX, hbl, hlocks, hgv⟩ := id C0
  have hts : ∀ w ∈ wsL_law, w.before #[Value.ref sb] s = true := fun w h => hts0 w (wsL_law_in w h)
  obtain ⟨dC, dI, cI, cZ, cJ, hK⟩ := zk_all hts0
  have hlt : l.stackTraces = false := by
    unfold Launch.stackTraces
    rw [hflags]
    decide
  have hn : zn s := fun w hw => va_Nw.of (zn_on w hw) (hts0 w (zn_tbl w hw))
  have hzt : zt s := ⟨fun w hw => va_Nw.of (zw_on w hw) (hts0 w (zw_tbl w hw)), fun q hq => by
    have h1 := hts0 (.stringRef RX3 q.1 q.2) (zs_tbl q hq)
    have h2 := flat_of_before _ hgv (.exactly (.string RX3 q.1) "java/lang/String") (zs_nar q hq)
    obtain ⟨sa, _, _, _, e1, _⟩ := Cond.exactly_spec h2
    exact ⟨sa, vk_R.of h1 e1⟩⟩
  have hzu : zU (fun q => s.heap.size ≤ q) s s.heap := ⟨vx_Zqof (hts0 (.laysStatic Bundle.tN "UNASSIGNED_STACK" Bundle.steD) (by decide +kernel)) (hts0 (.initialized Bundle.tN) (by decide +kernel)) (flat_of_before _ hgv (.isRef (.static Bundle.tN "UNASSIGNED_STACK" Bundle.steD)) (by decide +kernel)) (fun a h => Nat.not_le.mpr h), vx_Zqof (hts0 (.laysStatic Bundle.tN "SUPPRESSED_SENTINEL" Bundle.listD) (by decide +kernel)) (hts0 (.initialized Bundle.tN) (by decide +kernel)) (flat_of_before _ hgv (.isRef (.static Bundle.tN "SUPPRESSED_SENTINEL" Bundle.listD)) (by decide +kernel)) (fun a h => Nat.not_le.mpr h)⟩
  have hzc : zc s := ⟨va_Nc.of (flat_of_before _ hgv (.not (.castable "java/lang/IllegalStateException" "java/lang/IndexOutOfBoundsException")) (by decide +kernel)), va_Nc.of (flat_of_before _ hgv (.not (.castable "java/lang/IllegalStateException" "java/lang/IllegalArgumentException")) (by decide +kernel)), va_Nc.of (flat_of_before _ hgv (.not (.castable "java/lang/IllegalArgumentException" "java/lang/IndexOutOfBoundsException")) (by decide +kernel))⟩
  have hF0 : lwF p l s m c sb L xs dC dI cI cZ cJ := ⟨hx, hb, hml, hown, hts, hX, hbl, hL, hK, hn, hzt, hzu, hzc, hlt⟩
  obtain ⟨A, hAe⟩ : ∃ A : Nat → Prop, A = fun q => s.heap.size ≤ q := ⟨_, rfl⟩
  have hA : ∀ q : Nat, s.heap.size ≤ q → A q := fun q h => by rw [hAe]; exact h
  have hl := lv_entry ([.ref sb]) (n := 9) (Nat.le_of_ble_eq_true rfl)
  rw [lg_entry_eq]
  generalize (lg_sl ([.ref sb]) ++ List.replicate (9 - (lg_sl ([.ref sb])).length) Slot.unset).toArray = ls at hl ⊢
  have hl : lv_has ls 9 [(0, .ref sb)] := hl
  obtain ⟨H, hH⟩ : ∃ H, H = s.heap := ⟨_, rfl⟩
  obtain ⟨locs, hlo⟩ : ∃ q : List Loc, q = [] := ⟨_, rfl⟩
  have hP : va_P (dC, dI) vwCl [] H := fun k q h => by simp at h
  have hD : va_D A [] := ⟨fun i j p q h => by simp at h, fun k q h => by simp at h⟩
  have hS : va_S A s.heap H locs := by rw [hH, hlo]; exact va_S.rf
  refine zz_hl hH hlo ?_
  refine va_new (ci := 3) (fs := [.null, .null, .null, .null, .null, .null, .int 0, .null, .null, .null, .null, .int 0, .int 0, .int 0, .long 0]) (C := RX3) (T := TX3) (N := 15) hx hb hts (by decide +kernel) tyX3 tyX3_ok hown (hts (.classLink RL 8 RX3) (by decide +kernel)) (hts (.instantiable RX3 15) (by decide +kernel)) (hts (.initialized RX3) (by decide +kernel)) hK hP hD hS hA rfl (by decide +kernel) (by show _ ≤ 601024; omega) (by show _ ≤ 7293034; omega) dL_law_0 (fun q_0 H hP hD hS => ?_)
  refine W.widen (k := 1) (n := 15) (by omega) (by omega) ?_
  have hP : va_P (dC, dI) vwCl ([(q_0, .inr (3, [.null, .null, .null, .null, .null, .null, .int 0, .null, .null, .null, .null, .int 0, .int 0, .int 0, .long 0]))]) H := hP
  have hD : va_D A ([(q_0, .inr (3, [.null, .null, .null, .null, .null, .null, .int 0, .null, .null, .null, .null, .int 0, .int 0, .int 0, .long 0]))]) := hD
  refine lv_dup hx hb dL_law_3 rfl ?_
  have hDc := hD
  have hFc := va_free (wc := [(q_0, .inr (3, [.null, .null, .null, .null, .null, .null, .int 0, .null, .null, .null, .null, .int 0, .int 0, .int 0, .long 0]))]) hD hS hA [0] rfl
  refine va_callv (va_runI (As := []) (rest := [.ref q_0]) ⟨hx, hb, hml, hown, hts⟩ (c_X3_init l dC dI cI cZ cJ q_0 H.size ) (cwI 0 hts gL_law_X3_init rfl rfl rfl (hts (.initialized RX3) (by decide +kernel)) (hts (.methodLink RL 70 yX3_init) (by decide +kernel)) (hts (.instanceMethod yX3_init) (by decide +kernel)) rfl (by decide +kernel) ⟨Nat.le_of_ble_eq_true rfl, Nat.le_of_ble_eq_true rfl⟩) ⟨zWr_blind, zWr_at hP hK hn (hDc.weaken (fun _ _ _ _ => trivial))⟩ rfl rfl hl.1 rfl (lv_room (Nat.le_of_ble_eq_true rfl)) dL_law_4 ⟨by show _ ≤ 601024; omega, by show _ ≤ 7293034; omega⟩) hS (fun q _ h => hFc q h) hFc (fun u_9 t H1 locs ht hvm hw hB hz1 hk1 hS => ?_)
  obtain ⟨a, rfl⟩ : ∃ z, z = u_9 := ⟨_, rfl⟩
  obtain ⟨hP1, -, hD1⟩ := hB
  rw [ht] at hP1
  obtain ⟨hP, hD⟩ := va_join (wr := []) (w1 := w3 a cI cZ 1 (upd (fun _ => 0) 0 (-1)) (upd (fun _ => 0) 0 1) 0 (fun _ => 0) (fun _ => 0) (fun _ => 0) 0 (fun _ => 0) (fun _ => 0) (fun _ => 0) (fun _ => 0) 0 (fun _ => 0) (fun _ => 0) (fun _ => 0) (fun _ => 0) (fun _ => 0) (fun _ => 0) (fun _ => 0) (fun _ => 0) (fun _ => 0) (fun _ => 0) 0 0 0 (-1) 0) hP hD [0] [] rfl rfl (by decide) (by decide) hk1 hFc hP1 hD1
  generalize H1 = H at hP hS ⊢
  have hP : va_P (dC, dI) vwCl (w3 a cI cZ 1 (upd (fun _ => 0) 0 (-1)) (upd (fun _ => 0) 0 1) 0 (fun _ => 0) (fun _ => 0) (fun _ => 0) 0 (fun _ => 0) (fun _ => 0) (fun _ => 0) (fun _ => 0) 0 (fun _ => 0) (fun _ => 0) (fun _ => 0) (fun _ => 0) (fun _ => 0) (fun _ => 0) (fun _ => 0) (fun _ => 0) (fun _ => 0) (fun _ => 0) 0 0 0 (-1) 0) H := hP
  have hD : va_D A (w3 a cI cZ 1 (upd (fun _ => 0) 0 (-1)) (upd (fun _ => 0) 0 1) 0 (fun _ => 0) (fun _ => 0) (fun _ => 0) 0 (fun _ => 0) (fun _ => 0) (fun _ => 0) (fun _ => 0) 0 (fun _ => 0) (fun _ => 0) (fun _ => 0) (fun _ => 0) (fun _ => 0) (fun _ => 0) (fun _ => 0) (fun _ => 0) (fun _ => 0) (fun _ => 0) 0 0 0 (-1) 0) := hD
  refine W.widen (k := 24) (n := 961) (by omega) (by omega) ?_
  have hPn := hP
  have hDn := hD
  subst hw
  have hP := hPn
  have hD := hDn
  have hP : va_P (dC, dI) vwCl (w3 a cI cZ 1 (upd (fun _ => 0) 0 (-1)) (upd (fun _ => 0) 0 1) 0 (fun _ => 0) (fun _ => 0) (fun _ => 0) 0 (fun _ => 0) (fun _ => 0) (fun _ => 0) (fun _ => 0) 0 (fun _ => 0) (fun _ => 0) (fun _ => 0) (fun _ => 0) (fun _ => 0) (fun _ => 0) (fun _ => 0) (fun _ => 0) (fun _ => 0) (fun _ => 0) 0 0 0 (-1) 0) H := hP
  have hD : va_D A (w3 a cI cZ 1 (upd (fun _ => 0) 0 (-1)) (upd (fun _ => 0) 0 1) 0 (fun _ => 0) (fun _ => 0) (fun _ => 0) 0 (fun _ => 0) (fun _ => 0) (fun _ => 0) (fun _ => 0) 0 (fun _ => 0) (fun _ => 0) (fun _ => 0) (fun _ => 0) (fun _ => 0) (fun _ => 0) (fun _ => 0) (fun _ => 0) (fun _ => 0) (fun _ => 0) 0 0 0 (-1) 0) := hD
  refine lv_astore_n (lv' := [(1, .ref (a 0)), (0, .ref sb)]) hx hb dL_law_7 rfl hl (by decide) rfl (fun ls hl => ?_)
  refine va_new (ci := 4) (fs := [.int 0, .int 0, .null, .int 0, .null, .null, .null, .int 0, .null, .null, .null, .null, .int 0, .int 0, .int 0, .long 0, .null, .null, .null, .null]) (C := RX4) (T := TX4) (N := 20) hx hb hts (by decide +kernel) tyX4 tyX4_ok hown (hts (.classLink RL 71 RX4) (by decide +kernel)) (hts (.instantiable RX4 20) (by decide +kernel)) (hts (.initialized RX4) (by decide +kernel)) hK hP hD hS hA rfl (by decide +kernel) (by show _ ≤ 601024; omega) (by show _ ≤ 7293034; omega) dL_law_8 (fun q_8 H hP hD hS => ?_)
  refine W.widen (k := 25) (n := 981) (by omega) (by omega) ?_
  have hP : va_P (dC, dI) vwCl ((w3 a cI cZ 1 (upd (fun _ => 0) 0 (-1)) (upd (fun _ => 0) 0 1) 0 (fun _ => 0) (fun _ => 0) (fun _ => 0) 0 (fun _ => 0) (fun _ => 0) (fun _ => 0) (fun _ => 0) 0 (fun _ => 0) (fun _ => 0) (fun _ => 0) (fun _ => 0) (fun _ => 0) (fun _ => 0) (fun _ => 0) (fun _ => 0) (fun _ => 0) (fun _ => 0) 0 0 0 (-1) 0) ++ ([(q_8, .inr (4, [.int 0, .int 0, .null, .int 0, .null, .null, .null, .int 0, .null, .null, .null, .null, .int 0, .int 0, .int 0, .long 0, .null, .null, .null, .null]))])) H := hP
  have hD : va_D A ((w3 a cI cZ 1 (upd (fun _ => 0) 0 (-1)) (upd (fun _ => 0) 0 1) 0 (fun _ => 0) (fun _ => 0) (fun _ => 0) 0 (fun _ => 0) (fun _ => 0) (fun _ => 0) (fun _ => 0) 0 (fun _ => 0) (fun _ => 0) (fun _ => 0) (fun _ => 0) (fun _ => 0) (fun _ => 0) (fun _ => 0) (fun _ => 0) (fun _ => 0) (fun _ => 0) 0 0 0 (-1) 0) ++ ([(q_8, .inr (4, [.int 0, .int 0, .null, .int 0, .null, .null, .null, .int 0, .null, .null, .null, .null, .int 0, .int 0, .int 0, .long 0, .null, .null, .null, .null]))])) := hD
  refine lv_dup hx hb dL_law_11 rfl ?_
  have hPc := hP.sub (ws' := [(q_8, .inr (4, [.int 0, .int 0, .null, .int 0, .null, .null, .null, .int 0, .null, .null, .null, .null, .int 0, .int 0, .int 0, .long 0, .null, .null, .null, .null]))]) [24] rfl
  have hDc := hD.sub (ws' := [(q_8, .inr (4, [.int 0, .int 0, .null, .int 0, .null, .null, .null, .int 0, .null, .null, .null, .null, .int 0, .int 0, .int 0, .long 0, .null, .null, .null, .null]))]) [24] (by decide) rfl
  have hFc := va_free (wc := [(q_8, .inr (4, [.int 0, .int 0, .null, .int 0, .null, .null, .null, .int 0, .null, .null, .null, .null, .int 0, .int 0, .int 0, .long 0, .null, .null, .null, .null]))]) hD hS hA [24] rfl
  refine va_callv (va_runI (As := []) (rest := [.ref q_8]) ⟨hx, hb, hml, hown, hts⟩ (c_X4_init l dC dI cI cZ cJ q_8 H.size ) (cwI 0 hts gL_law_X4_init rfl rfl rfl (hts (.initialized RX4) (by decide +kernel)) (hts (.methodLink RL 73 yX4_init) (by decide +kernel)) (hts (.instanceMethod yX4_init) (by decide +kernel)) rfl (by decide +kernel) ⟨Nat.le_of_ble_eq_true rfl, Nat.le_of_ble_eq_true rfl⟩) ⟨zWr_blind, zWr_at hPc hK hn (hDc.weaken (fun _ _ _ _ => trivial))⟩ rfl rfl hl.1 rfl (lv_room (Nat.le_of_ble_eq_true rfl)) dL_law_12 ⟨by show _ ≤ 601024; omega, by show _ ≤ 7293034; omega⟩) hS (fun q _ h => hFc q h) hFc (fun u_9 t H1 locs ht hvm hw hB hz1 hk1 hS => ?_)
  obtain ⟨b, pa9, ab9⟩ := u_9
  dsimp only at hw hB
  obtain ⟨hP1, -, hD1⟩ := hB
  rw [ht] at hP1
  obtain ⟨hP, hD⟩ := va_join (wr := w3 a cI cZ 1 (upd (fun _ => 0) 0 (-1)) (upd (fun _ => 0) 0 1) 0 (fun _ => 0) (fun _ => 0) (fun _ => 0) 0 (fun _ => 0) (fun _ => 0) (fun _ => 0) (fun _ => 0) 0 (fun _ => 0) (fun _ => 0) (fun _ => 0) (fun _ => 0) (fun _ => 0) (fun _ => 0) (fun _ => 0) (fun _ => 0) (fun _ => 0) (fun _ => 0) 0 0 0 (-1) 0) (w1 := w4 b cI cZ 0 1 pa9 0 (fun _ => 0) (fun _ => 0) (fun _ => 0) 0 (fun _ => 0) (fun _ => 0) (fun _ => 0) (fun _ => 0) 0 0 (-1) 0 ab9 (fun _ => 0) (fun _ => 0) (fun _ => 0)) hP hD [24] [0, 1, 2, 3, 4, 5, 6, 7, 8, 9, 10, 11, 12, 13, 14, 15, 16, 17, 18, 19, 20, 21, 22, 23] rfl rfl (by decide) (by decide) hk1 hFc hP1 hD1
  generalize H1 = H at hP hS ⊢
  have hP : va_P (dC, dI) vwCl ((w3 a cI cZ 1 (upd (fun _ => 0) 0 (-1)) (upd (fun _ => 0) 0 1) 0 (fun _ => 0) (fun _ => 0) (fun _ => 0) 0 (fun _ => 0) (fun _ => 0) (fun _ => 0) (fun _ => 0) 0 (fun _ => 0) (fun _ => 0) (fun _ => 0) (fun _ => 0) (fun _ => 0) (fun _ => 0) (fun _ => 0) (fun _ => 0) (fun _ => 0) (fun _ => 0) 0 0 0 (-1) 0) ++ (w4 b cI cZ 0 1 pa9 0 (fun _ => 0) (fun _ => 0) (fun _ => 0) 0 (fun _ => 0) (fun _ => 0) (fun _ => 0) (fun _ => 0) 0 0 (-1) 0 ab9 (fun _ => 0) (fun _ => 0) (fun _ => 0))) H := hP
  have hD : va_D A ((w3 a cI cZ 1 (upd (fun _ => 0) 0 (-1)) (upd (fun _ => 0) 0 1) 0 (fun _ => 0) (fun _ => 0) (fun _ => 0) 0 (fun _ => 0) (fun _ => 0) (fun _ => 0) (fun _ => 0) 0 (fun _ => 0) (fun _ => 0) (fun _ => 0) (fun _ => 0) (fun _ => 0) (fun _ => 0) (fun _ => 0) (fun _ => 0) (fun _ => 0) (fun _ => 0) 0 0 0 (-1) 0) ++ (w4 b cI cZ 0 1 pa9 0 (fun _ => 0) (fun _ => 0) (fun _ => 0) 0 (fun _ => 0) (fun _ => 0) (fun _ => 0) (fun _ => 0) 0 0 (-1) 0 ab9 (fun _ => 0) (fun _ => 0) (fun _ => 0))) := hD
  refine W.widen (k := 37) (n := 1765) (by omega) (by omega) ?_
  obtain ⟨hw, hw1, hw2⟩ := hw
  have hPn := hP
  have hDn := hD
  subst hw
  replace hw1 := hw1.symm
  subst hw1
  replace hw2 := hw2.symm
  subst hw2
  have hP := hPn
  have hD := hDn
  have hP : va_P (dC, dI) vwCl ((w3 a cI cZ 1 (upd (fun _ => 0) 0 (-1)) (upd (fun _ => 0) 0 1) 0 (fun _ => 0) (fun _ => 0) (fun _ => 0) 0 (fun _ => 0) (fun _ => 0) (fun _ => 0) (fun _ => 0) 0 (fun _ => 0) (fun _ => 0) (fun _ => 0) (fun _ => 0) (fun _ => 0) (fun _ => 0) (fun _ => 0) (fun _ => 0) (fun _ => 0) (fun _ => 0) 0 0 0 (-1) 0) ++ (w4 b cI cZ 0 1 (upd (fun _ => 0) 0 (-1)) 0 (fun _ => 0) (fun _ => 0) (fun _ => 0) 0 (fun _ => 0) (fun _ => 0) (fun _ => 0) (fun _ => 0) 0 0 (-1) 0 (upd (fun _ => 0) 0 1) (fun _ => 0) (fun _ => 0) (fun _ => 0))) H := hP
  have hD : va_D A ((w3 a cI cZ 1 (upd (fun _ => 0) 0 (-1)) (upd (fun _ => 0) 0 1) 0 (fun _ => 0) (fun _ => 0) (fun _ => 0) 0 (fun _ => 0) (fun _ => 0) (fun _ => 0) (fun _ => 0) 0 (fun _ => 0) (fun _ => 0) (fun _ => 0) (fun _ => 0) (fun _ => 0) (fun _ => 0) (fun _ => 0) (fun _ => 0) (fun _ => 0) (fun _ => 0) 0 0 0 (-1) 0) ++ (w4 b cI cZ 0 1 (upd (fun _ => 0) 0 (-1)) 0 (fun _ => 0) (fun _ => 0) (fun _ => 0) 0 (fun _ => 0) (fun _ => 0) (fun _ => 0) (fun _ => 0) 0 0 (-1) 0 (upd (fun _ => 0) 0 1) (fun _ => 0) (fun _ => 0) (fun _ => 0))) := hD
  refine lv_astore_n (lv' := [(2, .ref (b 0)), (1, .ref (a 0)), (0, .ref sb)]) hx hb dL_law_15 rfl hl (by decide) rfl (fun ls hl => ?_)
  refine lv_iconst (v := 1) hx hb dL_law_16 (by decide) ?_
  refine va_newa (atype := .long) (ty := .long) (a0 := (1, .inr (.inl (fun _ => 0)))) hx hb (hts (.arrayClass .long) (by decide +kernel)) rfl hK hP hD hS hA (n := 1) (N' := 1) (fun _ => rfl) (by decide) (by decide) (by decide) (by show _ ≤ 601024; omega) (by show _ ≤ 7293034; omega) dL_law_17 (fun q_17 cA H hK1 hP hD hS => ?_)
  rw [zz_cJ hK1] at hP hD
  refine W.widen (k := 38) (n := 1766) (by omega) (by omega) ?_
  have hP : va_P (dC, dI) vwCl ((w3 a cI cZ 1 (upd (fun _ => 0) 0 (-1)) (upd (fun _ => 0) 0 1) 0 (fun _ => 0) (fun _ => 0) (fun _ => 0) 0 (fun _ => 0) (fun _ => 0) (fun _ => 0) (fun _ => 0) 0 (fun _ => 0) (fun _ => 0) (fun _ => 0) (fun _ => 0) (fun _ => 0) (fun _ => 0) (fun _ => 0) (fun _ => 0) (fun _ => 0) (fun _ => 0) 0 0 0 (-1) 0) ++ ((w4 b cI cZ 0 1 (upd (fun _ => 0) 0 (-1)) 0 (fun _ => 0) (fun _ => 0) (fun _ => 0) 0 (fun _ => 0) (fun _ => 0) (fun _ => 0) (fun _ => 0) 0 0 (-1) 0 (upd (fun _ => 0) 0 1) (fun _ => 0) (fun _ => 0) (fun _ => 0)) ++ ([(q_17, .inl (cJ, 1, .inr (.inl (fun _ => 0))))]))) H := hP
  have hD : va_D A ((w3 a cI cZ 1 (upd (fun _ => 0) 0 (-1)) (upd (fun _ => 0) 0 1) 0 (fun _ => 0) (fun _ => 0) (fun _ => 0) 0 (fun _ => 0) (fun _ => 0) (fun _ => 0) (fun _ => 0) 0 (fun _ => 0) (fun _ => 0) (fun _ => 0) (fun _ => 0) (fun _ => 0) (fun _ => 0) (fun _ => 0) (fun _ => 0) (fun _ => 0) (fun _ => 0) 0 0 0 (-1) 0) ++ ((w4 b cI cZ 0 1 (upd (fun _ => 0) 0 (-1)) 0 (fun _ => 0) (fun _ => 0) (fun _ => 0) 0 (fun _ => 0) (fun _ => 0) (fun _ => 0) (fun _ => 0) 0 0 (-1) 0 (upd (fun _ => 0) 0 1) (fun _ => 0) (fun _ => 0) (fun _ => 0)) ++ ([(q_17, .inl (cJ, 1, .inr (.inl (fun _ => 0))))]))) := hD
  refine lv_astore_n (lv' := [(3, .ref q_17), (2, .ref (b 0)), (1, .ref (a 0)), (0, .ref sb)]) hx hb dL_law_19 rfl hl (by decide) rfl (fun ls hl => ?_)
  refine lv_iconst (v := 0) hx hb dL_law_20 (by decide) ?_
  refine lv_istore (lv' := [(4, .int 0), (3, .ref q_17), (2, .ref (b 0)), (1, .ref (a 0)), (0, .ref sb)]) hx hb dL_law_21 hl (by decide) rfl (fun ls hl => ?_)
  have hd0 := Drawn.sameBut.refl s.drawn lw_cs
  subst hAe
  refine W.base ?_
  refine W.widen (k := 100) (n := 3000) (by omega) (by omega) ?_
  exact lw_loop l dC dI cI cZ cJ a b q_17 hF0 hr hlocks (L + 1) 0 100 3000 1 (upd (fun _ => 0) 0 (-1)) (upd (fun _ => 0) 0 1) 0 (fun _ => 0) (fun _ => 0) (fun _ => 0) 0 (fun _ => 0) (fun _ => 0) (fun _ => 0) (fun _ => 0) 0 (fun _ => 0) (fun _ => 0) (fun _ => 0) (fun _ => 0) (fun _ => 0) (fun _ => 0) (fun _ => 0) (fun _ => 0) (fun _ => 0) (fun _ => 0) 0 0 0 (-1) 0 0 (fun _ => 0) (fun _ => 0) (fun _ => 0) (fun _ => 0) (upd (fun _ => 0) 0 1) (fun _ => 0) (fun _ => 0) (fun _ => 0) (fun _ => 0) (fun _ _ => 0) up0 s.drawn H locs ls hd0 (by omega) (by omega) (by omega) (by omega) g3_0 g4_0 okC_0 hP hD hS (lv_sub hl [4, 3, 2, 1, 0] rfl)
theorem whole_start {p : Program} {e : Env} {s : State} {m : MethodId} {below : List Frame} {meth : Method} {c : Code} (l : Launch) (hflags : l.flags = flags0) {b L : Nat} {xs : Nat → Int32} (hL : L ≤ 2560) (C0 : lw_At p s m meth c b L xs) : W p l e room_1 s m #[Value.ref b] below meth c s.heap [] 0 0 (lw_Z below #[Value.ref b] s) (entryFrame m ([Value.ref b] : List Value).toArray 9) := whole_start0 l hflags hL C0

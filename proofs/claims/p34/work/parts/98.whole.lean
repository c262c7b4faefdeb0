set_option maxHeartbeats 8000000 in
set_option maxRecDepth 100000 in
/-- THE LAW, from its entry -/
theorem whole_start {p : Program} {e : Env} {s : State} {m : MethodId} {below : List Frame} {meth : Method} {c : Code} (l : Launch) (hflags : l.flags = flags0) {b L : Nat} {xs : Nat → Int32} (hL : L ≤ 260) (C0 : lw_At p s m meth c b L xs) : W p l e room_1 s m #[Value.ref b] below meth c s.heap [] 0 0 (lw_Z below #[Value.ref b] s) (entryFrame m ([Value.ref b] : List Value).toArray 14) := by
  obtain ⟨hx, hb, hr, hml, hown, hts, hXs, hbl, hlocks, hgv⟩ := id C0
  have hlt : l.stackTraces = false := by
    unfold Launch.stackTraces
    rw [hflags]
    decide +kernel
  have hq := flat_of_before _ hgv
  obtain ⟨c0, i0, hKn0⟩ := u_known (C := RX0) (T := TX0) (N := 3) (n := 3) hts in_uX0 (hts (.instantiable RX0 3) (by decide +kernel))
  obtain ⟨c1, i1, hKn1⟩ := u_known (C := RX1) (T := TX1) (N := 4) (n := 4) hts in_uX1 (hts (.instantiable RX1 4) (by decide +kernel))
  obtain ⟨c2, i2, hKn2⟩ := u_known (C := RX2) (T := TX2) (N := 4) (n := 4) hts in_uX2 (hts (.instantiable RX2 4) (by decide +kernel))
  obtain ⟨c3, i3, hKn3⟩ := u_known (C := RX3) (T := TX3) (N := 14) (n := 14) hts in_uX3 (hts (.instantiable RX3 14) (by decide +kernel))
  obtain ⟨c4, i4, hKn4⟩ := u_known (C := RX4) (T := TX4) (N := 4) (n := 4) hts in_uX4 (hts (.instantiable RX4 4) (by decide +kernel))
  obtain ⟨c5, i5, hKn5⟩ := u_known (C := RX5) (T := TX5) (N := 6) (n := 6) hts in_uX5 (hts (.instantiable RX5 6) (by decide +kernel))
  obtain ⟨dC, dI, hKc⟩ : ∃ (dC : Nat → ClassId) (dI : Nat → Nat → Nat), ∀ (k : Nat) (q : vw_C), vwCl[k]? = some q → u_Kn s q.1 q.2.1 q.2.2 (dC k) (dI k) := by
    refine ⟨fun k => match k with | 0 => c0 | 1 => c1 | 2 => c2 | 3 => c3 | 4 => c4 | _ => c5, fun k => match k with | 0 => i0 | 1 => i1 | 2 => i2 | 3 => i3 | 4 => i4 | _ => i5, ?_⟩
    intro k q hq
    match k, hq with
    | 0, hq => cases hq; exact hKn0
    | 1, hq => cases hq; exact hKn1
    | 2, hq => cases hq; exact hKn2
    | 3, hq => cases hq; exact hKn3
    | 4, hq => cases hq; exact hKn4
    | 5, hq => cases hq; exact hKn5
    | k + 6, hq => simp [vwCl] at hq
  obtain ⟨cA, kA, comp, a1, a2, a3⟩ := Cond.arrayClass_spec (args := #[Value.ref b]) (first := s) (o := none) (s := s) (idx := []) (type := .int) (hts (.arrayClass .int) (by decide +kernel))
  obtain ⟨compS, cS, kS, b1, -, b3, b4, b5⟩ := Cond.arrayOver_spec (args := #[Value.ref b]) (first := s) (o := none) (s := s) (idx := []) (n := "CableFerry$State") (hts (.arrayOver (.object "CableFerry$State")) (by decide +kernel))
  obtain ⟨G, hG⟩ : ∃ G : eG, G = ((dC, dI), cA, cS) := ⟨_, rfl⟩
  have hE : EV G s := by
    rw [hG]
    refine ⟨⟨hKc, fun k q h9 => ?_⟩, fun q h9 => va_Nw.of rfl (hts _ (nest_ok q h9))⟩
    match k, h9 with
    | 0, h9 => cases h9; exact ⟨fun n z => ⟨(fun k h => by cases h), kA, a2, comp, a3⟩, a1⟩
    | 1, h9 => cases h9; exact ⟨fun n z => ⟨(fun k h => by cases h), kS, b3, compS, b4⟩, ⟨kS, compS, b3, b4, b1, b5⟩⟩
    | k + 2, h9 => simp at h9
  have hJ0 : JB s.heap.size s s.heap := JB.of (jx_start hts hq)
  have hF0 : FX s.heap.size s s.heap := by
    obtain ⟨t, h1, h2⟩ := tab_FIRST (A := fun q => s.heap.size ≤ q) hts hq (fun a ha => Nat.not_le.mpr ha)
    exact ⟨va_AO.of (hts (.arrayOver (.object "CableFerry$State")) (by decide +kernel)), va_Nw.of rfl (hts (.fieldLinkNest RX3 18 "CableFerry" "FIRST_SETTINGS" "[I" RX5) (by decide +kernel)), t, h1, h2⟩
  replace hts : ∀ w ∈ wsL_law, w.before #[Value.ref b] s = true := fun w h => hts w (wsL_law_in w h)
  have hAl : ∀ q, AA s q → s.heap.size ≤ q := fun _ h => h
  have hA : ∀ q : Nat, s.heap.size ≤ q → AA s q := fun _ h => h
  have hJ : JB s.heap.size s s.heap := hJ0
  have hS : va_S (AA s) s.heap s.heap [] := va_S.rf
  have hl := lv_entry ([.ref b]) (n := 14) (Nat.le_of_ble_eq_true rfl)
  rw [lg_entry_eq]
  generalize (lg_sl ([.ref b]) ++ List.replicate (14 - (lg_sl ([.ref b])).length) Slot.unset).toArray = ls at hl ⊢
  have hl : lv_has ls 14 [(0, .ref b)] := hl
  refine mcall (st1 := [.int (nI 1)]) (va_runS (As := []) (rest := []) ⟨hx, hb, hml, hown, hts⟩ (K_crossings l hlt G s.heap.size s.heap.size) (va_cwS 0 hts gL_law_L_crossings rfl rfl rfl (by decide +kernel) ⟨Nat.le_of_ble_eq_true rfl, Nat.le_of_ble_eq_true rfl⟩) (PB.preS hE hJ (hF0.kept (fun a h1 h2 => hS.2.1 a h1 h2))) rfl rfl hl.1 rfl (lv_room (Nat.le_of_ble_eq_true rfl)) dL_law_0 ⟨Nat.le_of_ble_eq_true rfl, Nat.le_of_ble_eq_true rfl⟩) hS (fun q h1 h2 => absurd h1 (Nat.not_lt.mpr h2)) (fun q h => Nat.le_trans hS.1 h) rfl (fun H1 locs1 hB9 hz9 hk9 hS => ?_)
  refine W.widen (k := 258) (n := 1912) (Nat.le_of_ble_eq_true rfl) (Nat.le_of_ble_eq_true rfl) ?_
  clear hB9 hz9 hk9
  generalize H1 = H at hS ⊢
  have hJ : JB s.heap.size s H := hJ0.S hAl hS
  refine lv_if_eq (tgt := 18) hx hb dL_law_3 (by decide) (fun h => absurd h (by decide +kernel)) (fun _ => ?_)
  refine mcall (st1 := [.int (nI 1)]) (va_runS (As := []) (rest := []) ⟨hx, hb, hml, hown, hts⟩ (K_limits l hlt G s.heap.size H.size) (va_cwS 0 hts gL_law_L_limits rfl rfl rfl (by decide +kernel) ⟨Nat.le_of_ble_eq_true rfl, Nat.le_of_ble_eq_true rfl⟩) (PB.preS hE hJ (hF0.kept (fun a h1 h2 => hS.2.1 a h1 h2))) rfl rfl hl.1 rfl (lv_room (Nat.le_of_ble_eq_true rfl)) dL_law_6 ⟨Nat.le_of_ble_eq_true rfl, Nat.le_of_ble_eq_true rfl⟩) hS (fun q h1 h2 => absurd h1 (Nat.not_lt.mpr h2)) (fun q h => Nat.le_trans hS.1 h) rfl (fun H1 locs1 hB9 hz9 hk9 hS => ?_)
  refine W.widen (k := 626) (n := 4848) (Nat.le_of_ble_eq_true rfl) (Nat.le_of_ble_eq_true rfl) ?_
  clear hB9 hz9 hk9
  generalize H1 = H at hS ⊢
  have hJ : JB s.heap.size s H := hJ0.S hAl hS
  refine lv_if_eq (tgt := 18) hx hb dL_law_9 (by decide) (fun h => absurd h (by decide +kernel)) (fun _ => ?_)
  refine mcall (st1 := [.int (nI 1)]) (va_runS (As := []) (rest := []) ⟨hx, hb, hml, hown, hts⟩ (K_texts l hlt G s.heap.size H.size) (va_cwS 0 hts gL_law_L_texts rfl rfl rfl (by decide +kernel) ⟨Nat.le_of_ble_eq_true rfl, Nat.le_of_ble_eq_true rfl⟩) (PB.preS hE hJ (hF0.kept (fun a h1 h2 => hS.2.1 a h1 h2))) rfl rfl hl.1 rfl (lv_room (Nat.le_of_ble_eq_true rfl)) dL_law_12 ⟨Nat.le_of_ble_eq_true rfl, Nat.le_of_ble_eq_true rfl⟩) hS (fun q h1 h2 => absurd h1 (Nat.not_lt.mpr h2)) (fun q h => Nat.le_trans hS.1 h) rfl (fun H1 locs1 hB9 hz9 hk9 hS => ?_)
  refine W.widen (k := 788) (n := 6184) (Nat.le_of_ble_eq_true rfl) (Nat.le_of_ble_eq_true rfl) ?_
  clear hB9 hz9 hk9
  generalize H1 = H at hS ⊢
  have hJ : JB s.heap.size s H := hJ0.S hAl hS
  refine lv_if_ne (tgt := 20) hx hb dL_law_15 (by decide) (fun _ => ?_) (fun h => absurd h (by decide +kernel))
  have hP : va_P G.1 vwCl [] H := P_nil
  have hD : va_D (AA s) [] := ⟨fun i j p q h => by simp at h, fun k q h => by simp at h⟩
  refine va_new (ci := 5) (fs := [.null, .null, .null, .null, .null, .int (nI 0)]) (C := RX5) (T := TX5) (N := 6) hx hb hts (by decide +kernel) tyX5 tyX5_ok hown (hts (.classLink RL 10 RX5) (by decide +kernel)) (hts (.instantiable RX5 6) (by decide +kernel)) (hts (.initialized RX5) (by decide +kernel)) hE.1 hP hD hS hA rfl (fun j hj => by rcases (show j = 0 ∨ j = 1 ∨ j = 2 ∨ j = 3 ∨ j = 4 ∨ j = 5 by omega) with rfl | rfl | rfl | rfl | rfl | rfl <;> rfl) (Nat.le_of_ble_eq_true rfl) (Nat.le_of_ble_eq_true rfl) dL_law_20 (fun q20 H hP hD hS => ?_)
  refine W.widen (k := 789) (n := 6190) (Nat.le_of_ble_eq_true rfl) (Nat.le_of_ble_eq_true rfl) ?_
  refine lv_dup hx hb dL_law_23 rfl ?_
  have hFc := frC (w := []) hD hS hA
  refine mcall (st1 := [.ref q20]) (va_runI (As := []) (rest := [.ref q20]) ⟨hx, hb, hml, hown, hts⟩ (c_X5_init l G s.heap.size q20 H.size (Nat.le_trans hJ0.1 (D_last (w := []) hD)) (Nat.le_trans hJ0.1 hS.1)) (cwI 0 hts gL_law_X5_init rfl rfl rfl (hts (.initialized RX5) (by decide +kernel)) (hts (.methodLink RL 105 yX5_init) (by decide +kernel)) (hts (.instanceMethod yX5_init) (by decide +kernel)) rfl (by decide +kernel) ⟨Nat.le_of_ble_eq_true rfl, Nat.le_of_ble_eq_true rfl⟩) (PF.preS hE (hF0.kept (fun a h1 h2 => hS.2.1 a h1 (fun h => h2 (Nat.le_trans hJ0.1 h)))) ⟨rfl, P_last (w := []) hP⟩) rfl rfl hl.1 rfl (lv_room (Nat.le_of_ble_eq_true rfl)) dL_law_24 ⟨Nat.le_of_ble_eq_true rfl, Nat.le_of_ble_eq_true rfl⟩) hS (fun x _ h => hFc x h) hFc rfl (fun H1 locs1 hB hz1 hk1 hS => ?_)
  refine W.widen (k := 946) (n := 7496) (Nat.le_of_ble_eq_true rfl) (Nat.le_of_ble_eq_true rfl) ?_
  obtain ⟨an, tn, sn, ha, sv, aa, oa, co, hP1, hD1⟩ := hB
  obtain ⟨hP, hD⟩ := jnC (w := []) hP hD hFc hk1 hP1 hD1
  clear hP1 hD1 hFc
  generalize H1 = H at hP hS ⊢
  obtain ⟨WC, hX, hP, hD⟩ := new_XS hP hD
  have hR := new_PR
  have hJ : JB s.heap.size s H := hJ0.S hAl hS
  refine lv_astore_n (lv' := [(1, .ref q20), (0, .ref b)]) hx hb dL_law_27 rfl hl (by decide) rfl (fun ls hl => ?_)
  refine lv_bipush (v := nI 64) hx hb dL_law_28 (by decide +kernel) ?_
  refine va_newa (atype := .long) (ty := .long) (N' := 64) (a0 := (64, .inr (.inl (fun _ => 0)))) hx hb (hts (.arrayClass .long) (by decide +kernel)) rfl hE.1 hP hD hS hA (fun _ => rfl) (nI_pos (by decide)) (nI_clamp (by decide)) (by decide) (Nat.le_of_ble_eq_true rfl) (Nat.le_of_ble_eq_true rfl) dL_law_30 (fun q30 cJ H hN hP hD hS => ?_)
  refine W.widen (k := 947) (n := 7560) (Nat.le_of_ble_eq_true rfl) (Nat.le_of_ble_eq_true rfl) ?_
  have hKJ : va_K G.1 vwCl [(cJ, .long)] s := hN.sub [2] rfl
  replace hP : va_P G.1 vwCl (WC ++ wA q30 cJ (fun _ => 0)) H := by simp only [List.append_nil] at hP; exact hP
  replace hD : va_D (AA s) (WC ++ wA q30 cJ (fun _ => 0)) := by simp only [List.append_nil] at hD; exact hD
  have hJ : JB s.heap.size s H := hJ0.S hAl hS
  refine lv_astore_n (lv' := [(2, .ref q30), (1, .ref q20), (0, .ref b)]) hx hb dL_law_32 rfl hl (by decide) rfl (fun ls hl => ?_)
  refine lv_iconst (v := nI 0) hx hb dL_law_33 (by decide +kernel) ?_
  refine lv_istore_n (lv' := [(3, .int (nI 0)), (2, .ref q30), (1, .ref q20), (0, .ref b)]) hx hb dL_law_34 rfl hl (by decide) rfl (fun ls hl => ?_)
  refine lv_aload_n hx hb dL_law_35 rfl (lv_at hl 2 rfl) ?_
  refine lv_iconst (v := nI 0) hx hb dL_law_36 (by decide +kernel) ?_
  refine lv_bipush (v := nI 9) hx hb dL_law_37 (by decide +kernel) ?_
  refine cx0 (st1 := [.int ((fnL L0) (57 + (11 * 0)) + nI 1)]) (va_runV (As := [.int (nI 0), .int (nI 9)]) (rest := []) ⟨hx, hb, hml, hown, hts⟩ (CX_arrive_ok l G hX hR (by decide) 0 9 (by decide +kernel) (by decide +kernel) (by decide +kernel) (by decide +kernel)) (cwV 2 hts gL_law_X5_arrive rfl rfl rfl (by decide +kernel) ⟨Nat.le_of_ble_eq_true rfl, Nat.le_of_ble_eq_true rfl⟩) (PJ.preV hE hJ.jx (xs_recv hE.1 hX (P_pre hP)) ⟨P_pre hP, D_tr (D_pre hD)⟩) rfl rfl hl.1 rfl (lv_room (Nat.le_of_ble_eq_true rfl)) dL_law_39 ⟨Nat.le_of_ble_eq_true rfl, Nat.le_of_ble_eq_true rfl⟩) hP hD hS hJ0 hAl rfl (fun WC H locs hX hP hD hS hJ => ?_)
  have hR := PR_sav (B' := 10000) (f' := fArr (fnL L0) 0 (nI 9)) (by decide) hR (okf_mono (by decide) (okf_arr hR.1 (by decide) (by decide) (by decide +kernel)))
  rw [la_e0] at hX hR
  replace hX : XS G q20 (fnL la_L1) (fnL L0) (rgS (fun _ => fnL L0) 0 (fnL L0)) 0 1 0 (fnL T0) (nI 0) WC := hX
  replace hR : PR 10000 (fnL la_L1) (fnL L0) (rgS (fun _ => fnL L0) 0 (fnL L0)) 0 1 0 (fnL T0) (nI 0) := hR
  obtain ⟨ff1, hff1⟩ : ∃ F, F = rgS (fun _ => fnL L0) 0 (fnL L0) := ⟨_, rfl⟩
  rw [← hff1] at hX hR
  refine tI (y := nI 1) (by decide +kernel) ?_
  refine lv_iconst (v := nI 1) hx hb dL_law_42 (by decide +kernel) ?_
  refine lv_icmp_ne (tgt := 73) hx hb dL_law_43 (by decide) (fun h => absurd h (by decide +kernel)) (fun _ => ?_)
  refine lv_aload_n hx hb dL_law_46 rfl (lv_at hl 2 rfl) ?_
  refine lv_iconst (v := nI 1) hx hb dL_law_47 (by decide +kernel) ?_
  refine lv_iconst (v := nI 4) hx hb dL_law_48 (by decide +kernel) ?_
  refine cx0 (st1 := [.int ((fnL la_L1) (57 + (11 * 1)) + nI 1)]) (va_runV (As := [.int (nI 1), .int (nI 4)]) (rest := []) ⟨hx, hb, hml, hown, hts⟩ (CX_arrive_ok l G hX hR (by decide) 1 4 (by decide +kernel) (by decide +kernel) (by decide +kernel) (by decide +kernel)) (cwV 2 hts gL_law_X5_arrive rfl rfl rfl (by decide +kernel) ⟨Nat.le_of_ble_eq_true rfl, Nat.le_of_ble_eq_true rfl⟩) (PJ.preV hE hJ.jx (xs_recv hE.1 hX (P_pre hP)) ⟨P_pre hP, D_tr (D_pre hD)⟩) rfl rfl hl.1 rfl (lv_room (Nat.le_of_ble_eq_true rfl)) dL_law_49 ⟨Nat.le_of_ble_eq_true rfl, Nat.le_of_ble_eq_true rfl⟩) hP hD hS hJ0 hAl rfl (fun WC H locs hX hP hD hS hJ => ?_)
  have hR := PR_sav (B' := 20000) (f' := fArr (fnL la_L1) 1 (nI 4)) (by decide) hR (okf_mono (by decide) (okf_arr hR.1 (by decide) (by decide) (by decide +kernel)))
  rw [la_e1] at hX hR
  replace hX : XS G q20 (fnL la_L2) (fnL L0) (rgS ff1 1 (fnL la_L1)) 0 2 0 (fnL T0) (nI 0) WC := hX
  replace hR : PR 20000 (fnL la_L2) (fnL L0) (rgS ff1 1 (fnL la_L1)) 0 2 0 (fnL T0) (nI 0) := hR
  obtain ⟨ff2, hff2⟩ : ∃ F, F = rgS ff1 1 (fnL la_L1) := ⟨_, rfl⟩
  rw [← hff2] at hX hR
  refine tI (y := nI 1) (by decide +kernel) ?_
  refine lv_iconst (v := nI 1) hx hb dL_law_52 (by decide +kernel) ?_
  refine lv_icmp_ne (tgt := 73) hx hb dL_law_53 (by decide) (fun h => absurd h (by decide +kernel)) (fun _ => ?_)
  refine lv_aload_n hx hb dL_law_56 rfl (lv_at hl 2 rfl) ?_
  refine lv_iconst (v := nI 0) hx hb dL_law_57 (by decide +kernel) ?_
  refine cx0 (st1 := [.int ((fnL la_L2) (fAt (fnL la_L2) + 1))]) (va_runV (As := [.int (nI 0)]) (rest := []) ⟨hx, hb, hml, hown, hts⟩ (CX_load_ok l G hX hR (by decide) 0 (by decide +kernel) (by decide +kernel)) (cwV 1 hts gL_law_X5_load rfl rfl rfl (by decide +kernel) ⟨Nat.le_of_ble_eq_true rfl, Nat.le_of_ble_eq_true rfl⟩) (PJ.preV hE hJ.jx (xs_recv hE.1 hX (P_pre hP)) ⟨P_pre hP, D_tr (D_pre hD)⟩) rfl rfl hl.1 rfl (lv_room (Nat.le_of_ble_eq_true rfl)) dL_law_58 ⟨Nat.le_of_ble_eq_true rfl, Nat.le_of_ble_eq_true rfl⟩) hP hD hS hJ0 hAl rfl (fun WC H locs hX hP hD hS hJ => ?_)
  have hR := PR_sav (B' := 30000) (f' := fLod (fnL la_L2) 0) (by decide) hR (okf_mono (by decide) (okf_lod hR.1 (by decide) (by decide +kernel)))
  rw [la_e2] at hX hR
  replace hX : XS G q20 (fnL LSN) (fnL L0) (rgS ff2 2 (fnL la_L2)) 0 3 0 (fnL T0) (nI 0) WC := hX
  replace hR : PR 30000 (fnL LSN) (fnL L0) (rgS ff2 2 (fnL la_L2)) 0 3 0 (fnL T0) (nI 0) := hR
  obtain ⟨ff3, hff3⟩ : ∃ F, F = rgS ff2 2 (fnL la_L2) := ⟨_, rfl⟩
  rw [← hff3] at hX hR
  refine tI (y := nI 9) (by decide +kernel) ?_
  refine lv_bipush (v := nI 9) hx hb dL_law_61 (by decide +kernel) ?_
  refine lv_icmp_ne (tgt := 73) hx hb dL_law_63 (by decide) (fun h => absurd h (by decide +kernel)) (fun _ => ?_)
  refine lv_aload_n hx hb dL_law_66 rfl (lv_at hl 2 rfl) ?_
  refine cx0 (st1 := [.int ((fnL LSN) 50)]) (va_runV (As := []) (rest := []) ⟨hx, hb, hml, hown, hts⟩ (CX_keep_ok l G hX hR (by decide) ) (cwV 0 hts gL_law_X5_keep rfl rfl rfl (by decide +kernel) ⟨Nat.le_of_ble_eq_true rfl, Nat.le_of_ble_eq_true rfl⟩) (PJ.preV hE hJ.jx (xs_recv hE.1 hX (P_pre hP)) ⟨P_pre hP, D_tr (D_pre hD)⟩) rfl rfl hl.1 rfl (lv_room (Nat.le_of_ble_eq_true rfl)) dL_law_67 ⟨Nat.le_of_ble_eq_true rfl, Nat.le_of_ble_eq_true rfl⟩) hP hD hS hJ0 hAl rfl (fun WC H locs hX hP hD hS hJ => ?_)
  have hR := PR_sf hR
  replace hX : XS G q20 (fnL LSN) (fnL LSN) ff3 0 3 0 (fnL T0) (nI 1) WC := hX
  replace hR : PR 30000 (fnL LSN) (fnL LSN) ff3 0 3 0 (fnL T0) (nI 1) := hR
  refine tI (y := nI 0) (by decide +kernel) ?_
  refine lv_if_eq (tgt := 75) hx hb dL_law_70 (by decide) (fun _ => ?_) (fun h => absurd h (by decide +kernel))
  refine lv_aload_n hx hb dL_law_75 rfl (lv_at hl 2 rfl) ?_
  refine cx0 (st1 := [.long (seenF (fnL LSN))]) (va_runS (As := [.ref q20]) (rest := []) ⟨hx, hb, hml, hown, hts⟩ (K_seen l G hX hR (by decide)) (va_cwS 1 hts gL_law_L_seen rfl rfl rfl (by decide +kernel) ⟨Nat.le_of_ble_eq_true rfl, Nat.le_of_ble_eq_true rfl⟩) (PK.preS hE hJ ⟨P_pre hP, D_al hAl (D_pre hD)⟩) rfl rfl hl.1 rfl (lv_room (Nat.le_of_ble_eq_true rfl)) dL_law_76 ⟨Nat.le_of_ble_eq_true rfl, Nat.le_of_ble_eq_true rfl⟩) hP hD hS hJ0 hAl rfl (fun WC H locs hX hP hD hS hJ => ?_)
  refine lv_lstore (lv' := [(4, .long (seenF (fnL LSN))), (3, .int (nI 0)), (2, .ref q30), (1, .ref q20), (0, .ref b)]) hx hb dL_law_79 hl (by decide) rfl (fun ls hl => ?_)
  refine lv_iconst (v := nI 0) hx hb dL_law_81 (by decide +kernel) ?_
  refine lv_istore (lv' := [(6, .int (nI 0)), (4, .long (seenF (fnL LSN))), (3, .int (nI 0)), (2, .ref q30), (1, .ref q20), (0, .ref b)]) hx hb dL_law_82 hl (by decide) rfl (fun ls hl => ?_)
  have hLX : LX p s m c b L xs G cJ := ⟨hx, hb, hml, hown, hts, hE, hJ0, hKJ, hXs, hbl, hL⟩
  refine law_loop (fe := q20) (q := q30) (c0 := 947) (s0 := 7560) (kept := seenF (fnL LSN)) hlt hLX (by decide) (by decide) (fun acts fs f ff old sz g WC H locs ls hacts hrg hg hD hl => ?_) 28 0 rfl 0 (fun _ => fnL LSN) (fnL LSN) ff3 0 3 (fun _ => 0) WC H _ ls (Nat.le_refl _) ⟨rfl, fun j _ h => absurd h (Nat.not_lt_zero _)⟩ (fun i h => absurd h (Nat.not_lt_zero _)) ⟨hX, PR_mono (by decide) hR, hP, hD, hS⟩ (lv_sub hl [0, 2, 1, 3, 4, 5] rfl)
  clear hX hR hP
  obtain ⟨hX, hR, hP, hD, hS⟩ := hD
  have hJ : JB s.heap.size s H := hJ0.S hAl hS
  refine lv_aload_n hx hb dL_law_392 rfl (lv_at hl 3 rfl) ?_
  refine lv_iload_n hx hb dL_law_393 rfl (lv_at hl 1 rfl) ?_
  refine lv_aload_n hx hb dL_law_394 rfl (lv_at hl 4 rfl) ?_
  refine cx0 (st1 := [.long (seenF f), .int (nI acts), .ref q30]) (va_runS (As := [.ref q20]) (rest := [.int (nI acts), .ref q30]) ⟨hx, hb, hml, hown, hts⟩ (K_seen l G hX hR (by omega)) (va_cwS 1 hts gL_law_L_seen rfl rfl rfl (by decide +kernel) ⟨Nat.le_of_ble_eq_true rfl, Nat.le_of_ble_eq_true rfl⟩) (PK.preS hE hJ ⟨P_pre hP, D_al hAl (D_pre hD)⟩) rfl rfl hl.1 rfl (lv_room (Nat.le_of_ble_eq_true rfl)) dL_law_395 ⟨by show _ + 0 ≤ 600130; omega, by show _ + 0 ≤ 7301080; omega⟩) hP hD hS hJ0 hAl rfl (fun WC H locs hX hP hD hS hJ => ?_)
  refine va_last hx hb hKJ (P_perm List.perm_append_comm hP) (D_perm List.perm_append_comm hD) hS 0 0 rfl rfl (vp_in_nI (n := acts) (N := 64) (by omega) (by decide)) dL_law_398 (fun H locs hP hD hS => ?_)
  rw [nI_clamp (by omega)] at hP hD
  replace hP : va_P G.1 vwCl (wA q30 cJ (vp_updL g acts (seenF f)) ++ WC) H := hP
  replace hD : va_D (AA s) (wA q30 cJ (vp_updL g acts (seenF f)) ++ WC) := hD
  replace hP : va_P G.1 vwCl (WC ++ wA q30 cJ (vp_updL g acts (seenF f))) H := P_perm List.perm_append_comm hP
  replace hD : va_D (AA s) (WC ++ wA q30 cJ (vp_updL g acts (seenF f))) := D_perm List.perm_append_comm hD
  have hJ : JB s.heap.size s H := hJ0.S hAl hS
  refine lv_aload_n hx hb dL_law_399 rfl (lv_at hl 4 rfl) ?_
  refine cxc (st1 := [.int (nI 1)]) (va_runS (As := [.ref q20]) (rest := []) ⟨hx, hb, hml, hown, hts⟩ (K_refused l hlt G hX hR (by decide)) (va_cwS 1 hts gL_law_L_refused rfl rfl rfl (by decide +kernel) ⟨Nat.le_of_ble_eq_true rfl, Nat.le_of_ble_eq_true rfl⟩) (PK.preS hE hJ ⟨P_pre hP, D_al hAl (D_pre hD)⟩) rfl rfl hl.1 rfl (lv_room (Nat.le_of_ble_eq_true rfl)) dL_law_400 ⟨Nat.le_of_ble_eq_true rfl, Nat.le_of_ble_eq_true rfl⟩) hP hD hS hJ0 hAl rfl (fun WC H locs hX hP hD hS hJ => ?_)
  refine W.widen (k := 2000) (n := 20000) (Nat.le_of_ble_eq_true rfl) (Nat.le_of_ble_eq_true rfl) ?_
  refine lv_if_ne (tgt := 408) hx hb dL_law_403 (by decide) (fun _ => ?_) (fun h => absurd h (by decide +kernel))
  refine lv_iconst (v := nI 0) hx hb dL_law_408 (by decide +kernel) ?_
  refine lv_istore (lv' := [(6, .int (nI 0)), (3, .int (nI acts)), (4, .long (seenF (fnL LSN))), (2, .ref q30), (1, .ref q20), (0, .ref b)]) hx hb dL_law_409 hl (by decide) rfl (fun ls hl => ?_)
  have hgo : ∀ (H : Heap) (locs : List Loc) (ls : Array Slot), va_S (AA s) s.heap H locs → W p l e room_1 s m #[Value.ref b] below meth c H locs (2000 + 1) (20000 + 6) (lw_Z below #[Value.ref b] s) (F0 m 551 ls []) := by
    intro H locs ls hS
    refine va_forget hS.2.2 ?_
    refine W.widen (k := 600130) (n := 7301080) (Nat.le_of_ble_eq_true rfl) (Nat.le_of_ble_eq_true rfl) ?_
    refine lv_iconst (v := 1) hx hb dL_law_551 (by decide +kernel) ?_
    refine lv_goto (tgt := 556) hx hb dL_law_552 (by decide) ?_
    refine W.base ?_
    exact lw_ret (Drawn.sameBut.refl s.drawn lw_cs) hx hb hr hlocks dL_law_556
  have h0 := hR.2.2.2.2.1
  refine law_undo (fs := fs) (acts := acts) (cells := 2000) (slots := 20000) hlt hLX (by decide) hacts (fun i hi => ?_) (by decide) (by decide) (fun f sz WC H locs ls h6 hD hl => law_undo2 hLX (by decide) (by decide) (by decide) (fun f WC H locs ls hD hl => law_end hlt hLX (by decide) (by decide) (by decide) hgo hD hl) sz f WC H locs ls h6 hD hl) sz 0 f WC H locs ls (by omega) (Nat.zero_le _) (by rw [Nat.sub_zero]; exact hrg.1) (fun j h1 h2 => by rw [Nat.sub_zero] at h2 ⊢; exact hrg.2 j h1 h2) ⟨hX, hR, hP, hD, hS⟩ (lv_sub hl [0, 1, 2, 3, 4, 5] rfl)
  by_cases h : i = acts
  · subst h; rw [pk_uLs, hrg.1]
  · exact (pk_uLn h).trans (hg i (by omega))

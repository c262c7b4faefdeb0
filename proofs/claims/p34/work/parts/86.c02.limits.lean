set_option maxHeartbeats 8000000 in
set_option maxRecDepth 100000 in
theorem K_limits (l : Launch) (hlt : l.stackTraces = false) (G : eG) (lo sz : Nat) : Met l yL_limits wsL_limits ({ frames := 10, cells := 368, slots := 2936, locals := 193 }) (PB lo G sz) (MV (some (.int (nI 1))) (fun _ => True) (fun q => sz ≤ q)) 368 2936 (fun q => sz ≤ q) := by
  refine ofBB (cc := cL_limits) (maxL := 3) (ret := some .boolean) (by decide) rfl ?_
  intro p e s m below meth c hx hb hr hlocks hml hown hts hE hJ0 hF0 hsz ls hl
  subst hsz
  replace hown : s.vm.findClass RL = some m.cls := hown
  have hL : LC cL_limits 3 wsL_limits p s m meth c ([] : List Value).toArray G lo := ⟨hx, hb, hml, hown, hts, hE, hJ0, hF0, hr, hlocks⟩
  have hL9 := hL
  have hAl : ∀ q, AA s q → lo ≤ q := fun q h => Nat.le_trans hJ0.1 h
  have hA : ∀ q : Nat, s.heap.size ≤ q → AA s q := fun _ h => h
  have hS : va_S (AA s) s.heap s.heap [] := va_S.rf
  have hP : va_P G.1 vwCl [] s.heap := P_nil
  have hD : va_D (AA s) [] := ⟨fun i j p q h => by simp at h, fun k q h => by simp at h⟩
  show W p l e _ s m ([] : List Value).toArray below meth c s.heap [] 0 0 (MQ below (MV (some (.int (nI 1))) (fun _ => True) (AA s)) ([] : List Value).toArray s 368 2936 (AA s)) (F0 m 0 ls [])
  refine va_new (ci := 5) (fs := [.null, .null, .null, .null, .null, .int (nI 0)]) (C := RX5) (T := TX5) (N := 6) hx hb hts (by decide +kernel) tyX5 tyX5_ok hown (hts (.classLink RL 10 RX5) (by decide +kernel)) (hts (.instantiable RX5 6) (by decide +kernel)) (hts (.initialized RX5) (by decide +kernel)) hE.1 hP hD hS hA rfl (fun j hj => by rcases (show j = 0 ∨ j = 1 ∨ j = 2 ∨ j = 3 ∨ j = 4 ∨ j = 5 by omega) with rfl | rfl | rfl | rfl | rfl | rfl <;> rfl) (Nat.le_of_ble_eq_true rfl) (Nat.le_of_ble_eq_true rfl) dL_limits_0 (fun q0 H hP hD hS => ?_)
  refine W.widen (k := 1) (n := 6) (Nat.le_of_ble_eq_true rfl) (Nat.le_of_ble_eq_true rfl) ?_
  refine lv_dup hx hb dL_limits_3 rfl ?_
  have hFc := frC (w := []) hD hS hA
  refine mcall (st1 := [.ref q0]) (va_runI (As := []) (rest := [.ref q0]) ⟨hx, hb, hml, hown, hts⟩ (c_X5_init l G lo q0 H.size (Nat.le_trans hJ0.1 (D_last (w := []) hD)) (Nat.le_trans hJ0.1 hS.1)) (cwI 0 hts gL_limits_X5_init rfl rfl rfl (hts (.initialized RX5) (by decide +kernel)) (hts (.methodLink RL 105 yX5_init) (by decide +kernel)) (hts (.instanceMethod yX5_init) (by decide +kernel)) rfl (by decide +kernel) ⟨Nat.le_of_ble_eq_true rfl, Nat.le_of_ble_eq_true rfl⟩) (PF.preS hE (hF0.kept (fun a h1 h2 => hS.2.1 a h1 (fun h => h2 (Nat.le_trans hJ0.1 h)))) ⟨rfl, P_last (w := []) hP⟩) rfl rfl hl.1 rfl (lv_room (Nat.le_of_ble_eq_true rfl)) dL_limits_4 ⟨Nat.le_of_ble_eq_true rfl, Nat.le_of_ble_eq_true rfl⟩) hS (fun x _ h => hFc x h) hFc rfl (fun H1 locs1 hB hz1 hk1 hS => ?_)
  refine W.widen (k := 158) (n := 1312) (Nat.le_of_ble_eq_true rfl) (Nat.le_of_ble_eq_true rfl) ?_
  obtain ⟨an, tn, sn, ha, sv, aa, oa, co, hP1, hD1⟩ := hB
  obtain ⟨hP, hD⟩ := jnC (w := []) hP hD hFc hk1 hP1 hD1
  clear hP1 hD1 hFc
  generalize H1 = H at hP hS ⊢
  obtain ⟨WC, hX, hP, hD⟩ := new_XS hP hD
  have hR := new_PR
  have hJ : JB lo s H := hJ0.S hAl hS
  refine lv_astore_n (lv' := [(0, .ref q0)]) hx hb dL_limits_7 rfl hl (by decide) rfl (fun ls hl => ?_)
  refine lv_aload_n hx hb dL_limits_8 rfl (lv_at hl 0 rfl) ?_
  refine lv_iconst (v := nI 0) hx hb dL_limits_9 (by decide +kernel) ?_
  refine lv_bipush (v := nI 50) hx hb dL_limits_10 (by decide +kernel) ?_
  refine cx0 (st1 := [.int ((fnL L0) 0)]) (va_runV (As := [.int (nI 0), .int (nI 50)]) (rest := []) ⟨hx, hb, hml, hown, hts⟩ (CX_set_ok l G hX hR (by decide) 0 50 (by decide +kernel) (by decide +kernel) (by decide +kernel)) (cwV 2 hts gL_limits_X5_set rfl rfl rfl (by decide +kernel) ⟨Nat.le_of_ble_eq_true rfl, Nat.le_of_ble_eq_true rfl⟩) (PJ.preV hE hJ.jx (xs_recv hE.1 hX (P_pre hP)) ⟨P_pre hP, D_tr (D_pre hD)⟩) rfl rfl hl.1 rfl (lv_room (Nat.le_of_ble_eq_true rfl)) dL_limits_12 ⟨Nat.le_of_ble_eq_true rfl, Nat.le_of_ble_eq_true rfl⟩) hP hD hS hJ0 hAl rfl (fun WC H locs hX hP hD hS hJ => ?_)
  have hR := PR_sav (B' := 10000) (f' := upd (fnL L0) 0 (nI 50)) (by decide) hR (okf_mono (by decide) (okf_set hR.1 (by decide) (by decide +kernel) (by decide +kernel)))
  rw [li_e0] at hX hR
  replace hX : XS G q0 (fnL li_L1) (fnL L0) (rgS (fun _ => fnL L0) 0 (fnL L0)) 0 1 0 (fnL T0) (nI 0) WC := hX
  replace hR : PR 10000 (fnL li_L1) (fnL L0) (rgS (fun _ => fnL L0) 0 (fnL L0)) 0 1 0 (fnL T0) (nI 0) := hR
  obtain ⟨ff1, hff1⟩ : ∃ F, F = rgS (fun _ => fnL L0) 0 (fnL L0) := ⟨_, rfl⟩
  rw [← hff1] at hX hR
  refine tI (y := nI 300) (by decide +kernel) ?_
  refine lv_sipush (v := nI 300) hx hb dL_limits_15 (by decide +kernel) ?_
  refine lv_icmp_ne (tgt := 166) hx hb dL_limits_18 (by decide) (fun h => absurd h (by decide +kernel)) (fun _ => ?_)
  refine lv_aload_n hx hb dL_limits_21 rfl (lv_at hl 0 rfl) ?_
  refine lv_iconst (v := nI 3) hx hb dL_limits_22 (by decide +kernel) ?_
  refine lv_bipush (v := nI 40) hx hb dL_limits_23 (by decide +kernel) ?_
  refine cx0 (st1 := [.int ((fnL li_L1) (3 + 3))]) (va_runV (As := [.int (nI 3), .int (nI 40)]) (rest := []) ⟨hx, hb, hml, hown, hts⟩ (CX_current_ok l G hX hR (by decide) 3 40 (by decide +kernel) (by decide +kernel)) (cwV 2 hts gL_limits_X5_current rfl rfl rfl (by decide +kernel) ⟨Nat.le_of_ble_eq_true rfl, Nat.le_of_ble_eq_true rfl⟩) (PJ.preV hE hJ.jx (xs_recv hE.1 hX (P_pre hP)) ⟨P_pre hP, D_tr (D_pre hD)⟩) rfl rfl hl.1 rfl (lv_room (Nat.le_of_ble_eq_true rfl)) dL_limits_25 ⟨Nat.le_of_ble_eq_true rfl, Nat.le_of_ble_eq_true rfl⟩) hP hD hS hJ0 hAl rfl (fun WC H locs hX hP hD hS hJ => ?_)
  have hR := PR_sav (B' := 20000) (f' := upd (fnL li_L1) (3 + 3) (nI 40)) (by decide) hR (okf_mono (by decide) (okf_cur hR.1 (by decide) (by decide)))
  rw [li_e1] at hX hR
  replace hX : XS G q0 (fnL li_L2) (fnL L0) (rgS ff1 1 (fnL li_L1)) 0 2 0 (fnL T0) (nI 0) WC := hX
  replace hR : PR 20000 (fnL li_L2) (fnL L0) (rgS ff1 1 (fnL li_L1)) 0 2 0 (fnL T0) (nI 0) := hR
  obtain ⟨ff2, hff2⟩ : ∃ F, F = rgS ff1 1 (fnL li_L1) := ⟨_, rfl⟩
  rw [← hff2] at hX hR
  refine tI (y := nI 10) (by decide +kernel) ?_
  refine lv_bipush (v := nI 10) hx hb dL_limits_28 (by decide +kernel) ?_
  refine lv_icmp_ne (tgt := 166) hx hb dL_limits_30 (by decide) (fun h => absurd h (by decide +kernel)) (fun _ => ?_)
  refine lv_aload_n hx hb dL_limits_33 rfl (lv_at hl 0 rfl) ?_
  refine lv_iconst (v := nI 5) hx hb dL_limits_34 (by decide +kernel) ?_
  refine lv_iconst (v := nI 0) hx hb dL_limits_35 (by decide +kernel) ?_
  refine cx0 (st1 := [.int ((fnL li_L2) (3 + 5))]) (va_runV (As := [.int (nI 5), .int (nI 0)]) (rest := []) ⟨hx, hb, hml, hown, hts⟩ (CX_current_ok l G hX hR (by decide) 5 0 (by decide +kernel) (by decide +kernel)) (cwV 2 hts gL_limits_X5_current rfl rfl rfl (by decide +kernel) ⟨Nat.le_of_ble_eq_true rfl, Nat.le_of_ble_eq_true rfl⟩) (PJ.preV hE hJ.jx (xs_recv hE.1 hX (P_pre hP)) ⟨P_pre hP, D_tr (D_pre hD)⟩) rfl rfl hl.1 rfl (lv_room (Nat.le_of_ble_eq_true rfl)) dL_limits_36 ⟨Nat.le_of_ble_eq_true rfl, Nat.le_of_ble_eq_true rfl⟩) hP hD hS hJ0 hAl rfl (fun WC H locs hX hP hD hS hJ => ?_)
  have hR := PR_sav (B' := 30000) (f' := upd (fnL li_L2) (3 + 5) (nI 0)) (by decide) hR (okf_mono (by decide) (okf_cur hR.1 (by decide) (by decide)))
  rw [li_e2] at hX hR
  replace hX : XS G q0 (fnL li_L3) (fnL L0) (rgS ff2 2 (fnL li_L2)) 0 3 0 (fnL T0) (nI 0) WC := hX
  replace hR : PR 30000 (fnL li_L3) (fnL L0) (rgS ff2 2 (fnL li_L2)) 0 3 0 (fnL T0) (nI 0) := hR
  obtain ⟨ff3, hff3⟩ : ∃ F, F = rgS ff2 2 (fnL li_L2) := ⟨_, rfl⟩
  rw [← hff3] at hX hR
  refine tI (y := nI 10) (by decide +kernel) ?_
  refine lv_bipush (v := nI 10) hx hb dL_limits_39 (by decide +kernel) ?_
  refine lv_icmp_ne (tgt := 166) hx hb dL_limits_41 (by decide) (fun h => absurd h (by decide +kernel)) (fun _ => ?_)
  refine lv_aload_n hx hb dL_limits_44 rfl (lv_at hl 0 rfl) ?_
  refine cx0 (st1 := [.int (nI (bN (fnL li_L3) 24))]) (va_runV (As := []) (rest := []) ⟨hx, hb, hml, hown, hts⟩ (CX_bestHour_ok l G hX hR (by decide) ) (cwV 0 hts gL_limits_X5_bestHour rfl rfl rfl (by decide +kernel) ⟨Nat.le_of_ble_eq_true rfl, Nat.le_of_ble_eq_true rfl⟩) (PJ.preV hE hJ.jx (xs_recv hE.1 hX (P_pre hP)) ⟨P_pre hP, D_tr (D_pre hD)⟩) rfl rfl hl.1 rfl (lv_room (Nat.le_of_ble_eq_true rfl)) dL_limits_45 ⟨Nat.le_of_ble_eq_true rfl, Nat.le_of_ble_eq_true rfl⟩) hP hD hS hJ0 hAl rfl (fun WC H locs hX hP hD hS hJ => ?_)
  refine tI (y := nI 5) (by decide +kernel) ?_
  refine lv_iconst (v := nI 5) hx hb dL_limits_48 (by decide +kernel) ?_
  refine lv_icmp_ne (tgt := 166) hx hb dL_limits_49 (by decide) (fun h => absurd h (by decide +kernel)) (fun _ => ?_)
  refine lv_aload_n hx hb dL_limits_52 rfl (lv_at hl 0 rfl) ?_
  refine cx0 (st1 := [.int ((fnL li_L3) 50)]) (va_runV (As := []) (rest := []) ⟨hx, hb, hml, hown, hts⟩ (CX_keep_ok l G hX hR (by decide) ) (cwV 0 hts gL_limits_X5_keep rfl rfl rfl (by decide +kernel) ⟨Nat.le_of_ble_eq_true rfl, Nat.le_of_ble_eq_true rfl⟩) (PJ.preV hE hJ.jx (xs_recv hE.1 hX (P_pre hP)) ⟨P_pre hP, D_tr (D_pre hD)⟩) rfl rfl hl.1 rfl (lv_room (Nat.le_of_ble_eq_true rfl)) dL_limits_53 ⟨Nat.le_of_ble_eq_true rfl, Nat.le_of_ble_eq_true rfl⟩) hP hD hS hJ0 hAl rfl (fun WC H locs hX hP hD hS hJ => ?_)
  have hR := PR_sf hR
  replace hX : XS G q0 (fnL li_L3) (fnL li_L3) ff3 0 3 0 (fnL T0) (nI 1) WC := hX
  replace hR : PR 30000 (fnL li_L3) (fnL li_L3) ff3 0 3 0 (fnL T0) (nI 1) := hR
  refine tI (y := nI 0) (by decide +kernel) ?_
  refine lv_if_ne (tgt := 166) hx hb dL_limits_56 (by decide) (fun h => absurd h (by decide +kernel)) (fun _ => ?_)
  refine lv_aload_n hx hb dL_limits_59 rfl (lv_at hl 0 rfl) ?_
  refine lv_iconst (v := nI 3) hx hb dL_limits_60 (by decide +kernel) ?_
  refine cx0 (st1 := [.int ((fnL li_L3) 50 + nI 3)]) (va_runV (As := [.int (nI 3)]) (rest := []) ⟨hx, hb, hml, hown, hts⟩ (CX_pass_ok l G hX hR (by decide) 3 (by decide +kernel) (by decide +kernel)) (cwV 1 hts gL_limits_X5_pass rfl rfl rfl (by decide +kernel) ⟨Nat.le_of_ble_eq_true rfl, Nat.le_of_ble_eq_true rfl⟩) (PJ.preV hE hJ.jx (xs_recv hE.1 hX (P_pre hP)) ⟨P_pre hP, D_tr (D_pre hD)⟩) rfl rfl hl.1 rfl (lv_room (Nat.le_of_ble_eq_true rfl)) dL_limits_61 ⟨Nat.le_of_ble_eq_true rfl, Nat.le_of_ble_eq_true rfl⟩) hP hD hS hJ0 hAl rfl (fun WC H locs hX hP hD hS hJ => ?_)
  have hR := PR_sav (B' := 40000) (f' := fPas (fnL li_L3) (nI 3)) (by decide) hR (okf_mono (by decide) (okf_pas (by decide) (by decide) hR.1))
  rw [li_e3] at hX hR
  replace hX : XS G q0 (fnL li_L4) (fnL li_L3) (rgS ff3 3 (fnL li_L3)) 0 4 0 (fnL T0) (nI 1) WC := hX
  replace hR : PR 40000 (fnL li_L4) (fnL li_L3) (rgS ff3 3 (fnL li_L3)) 0 4 0 (fnL T0) (nI 1) := hR
  obtain ⟨ff4, hff4⟩ : ∃ F, F = rgS ff3 3 (fnL li_L3) := ⟨_, rfl⟩
  rw [← hff4] at hX hR
  refine tI (y := nI 3) (by decide +kernel) ?_
  refine lv_iconst (v := nI 3) hx hb dL_limits_64 (by decide +kernel) ?_
  refine lv_icmp_ne (tgt := 166) hx hb dL_limits_65 (by decide) (fun h => absurd h (by decide +kernel)) (fun _ => ?_)
  refine lv_aload_n hx hb dL_limits_68 rfl (lv_at hl 0 rfl) ?_
  refine lv_bipush (v := nI 9) hx hb dL_limits_69 (by decide +kernel) ?_
  refine lv_iconst (v := nI 2) hx hb dL_limits_71 (by decide +kernel) ?_
  refine cx0 (st1 := [.int (fOf (fnL li_L4) 9 2)]) (va_runV (As := [.int (nI 9), .int (nI 2)]) (rest := []) ⟨hx, hb, hml, hown, hts⟩ (CX_section_ok l G hX hR (by decide) 9 2 (by decide +kernel) (by decide +kernel)) (cwV 2 hts gL_limits_X5_section rfl rfl rfl (by decide +kernel) ⟨Nat.le_of_ble_eq_true rfl, Nat.le_of_ble_eq_true rfl⟩) (PJ.preV hE hJ.jx (xs_recv hE.1 hX (P_pre hP)) ⟨P_pre hP, D_tr (D_pre hD)⟩) rfl rfl hl.1 rfl (lv_room (Nat.le_of_ble_eq_true rfl)) dL_limits_72 ⟨Nat.le_of_ble_eq_true rfl, Nat.le_of_ble_eq_true rfl⟩) hP hD hS hJ0 hAl rfl (fun WC H locs hX hP hD hS hJ => ?_)
  refine tI (y := nI 80) (by decide +kernel) ?_
  refine lv_bipush (v := nI 80) hx hb dL_limits_75 (by decide +kernel) ?_
  refine lv_icmp_ne (tgt := 166) hx hb dL_limits_77 (by decide) (fun h => absurd h (by decide +kernel)) (fun _ => ?_)
  refine lv_aload_n hx hb dL_limits_80 rfl (lv_at hl 0 rfl) ?_
  refine cx0 (st1 := [.int (fRsn (fnL li_L4))]) (va_runV (As := []) (rest := []) ⟨hx, hb, hml, hown, hts⟩ (CX_why l G hX hR (by decide) ) (cwV 0 hts gL_limits_X5_why rfl rfl rfl (by decide +kernel) ⟨Nat.le_of_ble_eq_true rfl, Nat.le_of_ble_eq_true rfl⟩) (PJ.preV hE hJ.jx (xs_recv hE.1 hX (P_pre hP)) ⟨P_pre hP, D_tr (D_pre hD)⟩) rfl rfl hl.1 rfl (lv_room (Nat.le_of_ble_eq_true rfl)) dL_limits_81 ⟨Nat.le_of_ble_eq_true rfl, Nat.le_of_ble_eq_true rfl⟩) hP hD hS hJ0 hAl rfl (fun WC H locs hX hP hD hS hJ => ?_)
  refine tI (y := nI 3) (by decide +kernel) ?_
  refine lv_iconst (v := nI 3) hx hb dL_limits_84 (by decide +kernel) ?_
  refine lv_icmp_ne (tgt := 166) hx hb dL_limits_85 (by decide) (fun h => absurd h (by decide +kernel)) (fun _ => ?_)
  refine lv_aload_n hx hb dL_limits_88 rfl (lv_at hl 0 rfl) ?_
  refine cx0 (st1 := [.int (nI (wkN (fnL li_L4) 20))]) (va_runV (As := []) (rest := []) ⟨hx, hb, hml, hown, hts⟩ (CX_weakest_ok l G hX hR (by decide) ) (cwV 0 hts gL_limits_X5_weakest rfl rfl rfl (by decide +kernel) ⟨Nat.le_of_ble_eq_true rfl, Nat.le_of_ble_eq_true rfl⟩) (PJ.preV hE hJ.jx (xs_recv hE.1 hX (P_pre hP)) ⟨P_pre hP, D_tr (D_pre hD)⟩) rfl rfl hl.1 rfl (lv_room (Nat.le_of_ble_eq_true rfl)) dL_limits_89 ⟨Nat.le_of_ble_eq_true rfl, Nat.le_of_ble_eq_true rfl⟩) hP hD hS hJ0 hAl rfl (fun WC H locs hX hP hD hS hJ => ?_)
  refine tI (y := nI 9) (by decide +kernel) ?_
  refine lv_bipush (v := nI 9) hx hb dL_limits_92 (by decide +kernel) ?_
  refine lv_icmp_ne (tgt := 166) hx hb dL_limits_94 (by decide) (fun h => absurd h (by decide +kernel)) (fun _ => ?_)
  refine lv_aload_n hx hb dL_limits_97 rfl (lv_at hl 0 rfl) ?_
  refine cx0 (st1 := [.int (fNd (fnL li_L4))]) (va_runV (As := []) (rest := []) ⟨hx, hb, hml, hown, hts⟩ (CX_needed_ok l G hX hR (by decide) ) (cwV 0 hts gL_limits_X5_needed rfl rfl rfl (by decide +kernel) ⟨Nat.le_of_ble_eq_true rfl, Nat.le_of_ble_eq_true rfl⟩) (PJ.preV hE hJ.jx (xs_recv hE.1 hX (P_pre hP)) ⟨P_pre hP, D_tr (D_pre hD)⟩) rfl rfl hl.1 rfl (lv_room (Nat.le_of_ble_eq_true rfl)) dL_limits_98 ⟨Nat.le_of_ble_eq_true rfl, Nat.le_of_ble_eq_true rfl⟩) hP hD hS hJ0 hAl rfl (fun WC H locs hX hP hD hS hJ => ?_)
  refine tI (y := nI 1) (by decide +kernel) ?_
  refine lv_iconst (v := nI 1) hx hb dL_limits_101 (by decide +kernel) ?_
  refine lv_icmp_ne (tgt := 166) hx hb dL_limits_102 (by decide) (fun h => absurd h (by decide +kernel)) (fun _ => ?_)
  refine lv_aload_n hx hb dL_limits_105 rfl (lv_at hl 0 rfl) ?_
  refine cx0 (st1 := [.int (nI (nCr 100 (fnL li_L4)))]) (va_runV (As := []) (rest := []) ⟨hx, hb, hml, hown, hts⟩ (CX_lasts_ok l G hX hR (by decide) ) (cwV 0 hts gL_limits_X5_lasts rfl rfl rfl (by decide +kernel) ⟨Nat.le_of_ble_eq_true rfl, Nat.le_of_ble_eq_true rfl⟩) (PJ.preV hE hJ.jx (xs_recv hE.1 hX (P_pre hP)) ⟨P_pre hP, D_tr (D_pre hD)⟩) rfl rfl hl.1 rfl (lv_room (Nat.le_of_ble_eq_true rfl)) dL_limits_106 ⟨Nat.le_of_ble_eq_true rfl, Nat.le_of_ble_eq_true rfl⟩) hP hD hS hJ0 hAl rfl (fun WC H locs hX hP hD hS hJ => ?_)
  refine tI (y := nI 0) (by decide +kernel) ?_
  refine lv_if_ne (tgt := 166) hx hb dL_limits_109 (by decide) (fun h => absurd h (by decide +kernel)) (fun _ => ?_)
  refine lv_aload_n hx hb dL_limits_112 rfl (lv_at hl 0 rfl) ?_
  refine cx0 (st1 := [.int (nI (bN (fnL li_L4) 24))]) (va_runV (As := []) (rest := []) ⟨hx, hb, hml, hown, hts⟩ (CX_bestHour_ok l G hX hR (by decide) ) (cwV 0 hts gL_limits_X5_bestHour rfl rfl rfl (by decide +kernel) ⟨Nat.le_of_ble_eq_true rfl, Nat.le_of_ble_eq_true rfl⟩) (PJ.preV hE hJ.jx (xs_recv hE.1 hX (P_pre hP)) ⟨P_pre hP, D_tr (D_pre hD)⟩) rfl rfl hl.1 rfl (lv_room (Nat.le_of_ble_eq_true rfl)) dL_limits_113 ⟨Nat.le_of_ble_eq_true rfl, Nat.le_of_ble_eq_true rfl⟩) hP hD hS hJ0 hAl rfl (fun WC H locs hX hP hD hS hJ => ?_)
  refine tI (y := nI 2) (by decide +kernel) ?_
  refine lv_iconst (v := nI 2) hx hb dL_limits_116 (by decide +kernel) ?_
  refine lv_icmp_ne (tgt := 166) hx hb dL_limits_117 (by decide) (fun h => absurd h (by decide +kernel)) (fun _ => ?_)
  refine lv_aload_n hx hb dL_limits_120 rfl (lv_at hl 0 rfl) ?_
  refine lv_iconst (v := nI 1) hx hb dL_limits_121 (by decide +kernel) ?_
  refine cx0 (st1 := [.int ((fnL li_L4) 49 - nI 1)]) (va_runV (As := [.int (nI 1)]) (rest := []) ⟨hx, hb, hml, hown, hts⟩ (CX_draw_ok l G hX hR (by decide) hR.1.2.2.1.2.2.1 1 (by decide +kernel) (by decide +kernel) (by decide +kernel)) (cwV 1 hts gL_limits_X5_draw rfl rfl rfl (by decide +kernel) ⟨Nat.le_of_ble_eq_true rfl, Nat.le_of_ble_eq_true rfl⟩) (PJ.preV hE hJ.jx (xs_recv hE.1 hX (P_pre hP)) ⟨P_pre hP, D_tr (D_pre hD)⟩) rfl rfl hl.1 rfl (lv_room (Nat.le_of_ble_eq_true rfl)) dL_limits_122 ⟨Nat.le_of_ble_eq_true rfl, Nat.le_of_ble_eq_true rfl⟩) hP hD hS hJ0 hAl rfl (fun WC H locs hX hP hD hS hJ => ?_)
  have hR := PR_sav (B' := 50000) (f' := fDrw (fnL li_L4) 1) (by decide) hR (okf_mono (by decide) (okf_drw (by decide) (by decide) (by decide +kernel) hR.1))
  rw [li_e4] at hX hR
  replace hX : XS G q0 (fnL li_L5) (fnL li_L3) (rgS ff4 4 (fnL li_L4)) 0 5 0 (fnL T0) (nI 1) WC := hX
  replace hR : PR 50000 (fnL li_L5) (fnL li_L3) (rgS ff4 4 (fnL li_L4)) 0 5 0 (fnL T0) (nI 1) := hR
  obtain ⟨ff5, hff5⟩ : ∃ F, F = rgS ff4 4 (fnL li_L4) := ⟨_, rfl⟩
  rw [← hff5] at hX hR
  refine tI (y := nI 39) (by decide +kernel) ?_
  refine lv_bipush (v := nI 39) hx hb dL_limits_125 (by decide +kernel) ?_
  refine lv_icmp_ne (tgt := 166) hx hb dL_limits_127 (by decide) (fun h => absurd h (by decide +kernel)) (fun _ => ?_)
  refine lv_aload_n hx hb dL_limits_130 rfl (lv_at hl 0 rfl) ?_
  refine cx0 (st1 := [.int (fRsn (fnL li_L5))]) (va_runV (As := []) (rest := []) ⟨hx, hb, hml, hown, hts⟩ (CX_why l G hX hR (by decide) ) (cwV 0 hts gL_limits_X5_why rfl rfl rfl (by decide +kernel) ⟨Nat.le_of_ble_eq_true rfl, Nat.le_of_ble_eq_true rfl⟩) (PJ.preV hE hJ.jx (xs_recv hE.1 hX (P_pre hP)) ⟨P_pre hP, D_tr (D_pre hD)⟩) rfl rfl hl.1 rfl (lv_room (Nat.le_of_ble_eq_true rfl)) dL_limits_131 ⟨Nat.le_of_ble_eq_true rfl, Nat.le_of_ble_eq_true rfl⟩) hP hD hS hJ0 hAl rfl (fun WC H locs hX hP hD hS hJ => ?_)
  refine tI (y := nI 0) (by decide +kernel) ?_
  refine lv_if_ne (tgt := 166) hx hb dL_limits_134 (by decide) (fun h => absurd h (by decide +kernel)) (fun _ => ?_)
  refine lv_aload_n hx hb dL_limits_137 rfl (lv_at hl 0 rfl) ?_
  refine cx0 (st1 := [.int ((fnL li_L3) 50)]) (va_runV (As := []) (rest := []) ⟨hx, hb, hml, hown, hts⟩ (CX_goBack_ok l G hX hR (by decide) ) (cwV 0 hts gL_limits_X5_goBack rfl rfl rfl (by decide +kernel) ⟨Nat.le_of_ble_eq_true rfl, Nat.le_of_ble_eq_true rfl⟩) (PJ.preV hE hJ.jx (xs_recv hE.1 hX (P_pre hP)) ⟨P_pre hP, D_tr (D_pre hD)⟩) rfl rfl hl.1 rfl (lv_room (Nat.le_of_ble_eq_true rfl)) dL_limits_138 ⟨Nat.le_of_ble_eq_true rfl, Nat.le_of_ble_eq_true rfl⟩) hP hD hS hJ0 hAl rfl (fun WC H locs hX hP hD hS hJ => ?_)
  have hR := PR_sav (B' := 60000) (by decide) hR (okf_mono (by decide) hR.2.1)
  replace hX : XS G q0 (fnL li_L3) (fnL li_L3) (rgS ff5 5 (fnL li_L5)) 0 6 0 (fnL T0) (nI 1) WC := hX
  replace hR : PR 60000 (fnL li_L3) (fnL li_L3) (rgS ff5 5 (fnL li_L5)) 0 6 0 (fnL T0) (nI 1) := hR
  obtain ⟨ff6, hff6⟩ : ∃ F, F = rgS ff5 5 (fnL li_L5) := ⟨_, rfl⟩
  rw [← hff6] at hX hR
  refine tI (y := nI 0) (by decide +kernel) ?_
  refine lv_if_ne (tgt := 166) hx hb dL_limits_141 (by decide) (fun h => absurd h (by decide +kernel)) (fun _ => ?_)
  refine lv_aload_n hx hb dL_limits_144 rfl (lv_at hl 0 rfl) ?_
  refine lv_bipush (v := nI 7) hx hb dL_limits_145 (by decide +kernel) ?_
  refine cx0 (st1 := [.int (fCnt (fnL li_L3) 6 7)]) (va_runV (As := [.int (nI 7)]) (rest := []) ⟨hx, hb, hml, hown, hts⟩ (CX_count_ok l G hX hR (by decide) 7 (by decide +kernel)) (cwV 1 hts gL_limits_X5_count rfl rfl rfl (by decide +kernel) ⟨Nat.le_of_ble_eq_true rfl, Nat.le_of_ble_eq_true rfl⟩) (PJ.preV hE hJ.jx (xs_recv hE.1 hX (P_pre hP)) ⟨P_pre hP, D_tr (D_pre hD)⟩) rfl rfl hl.1 rfl (lv_room (Nat.le_of_ble_eq_true rfl)) dL_limits_147 ⟨Nat.le_of_ble_eq_true rfl, Nat.le_of_ble_eq_true rfl⟩) hP hD hS hJ0 hAl rfl (fun WC H locs hX hP hD hS hJ => ?_)
  refine tI (y := nI 40) (by decide +kernel) ?_
  refine lv_bipush (v := nI 40) hx hb dL_limits_150 (by decide +kernel) ?_
  refine lv_icmp_ne (tgt := 166) hx hb dL_limits_152 (by decide) (fun h => absurd h (by decide +kernel)) (fun _ => ?_)
  refine lv_aload_n hx hb dL_limits_155 rfl (lv_at hl 0 rfl) ?_
  refine lv_iconst (v := nI 2) hx hb dL_limits_156 (by decide +kernel) ?_
  refine lv_iconst (v := nI 1) hx hb dL_limits_157 (by decide +kernel) ?_
  refine cx0 (st1 := [.int ((fnL li_L3) 2)]) (va_runV (As := [.int (nI 2), .int (nI 1)]) (rest := []) ⟨hx, hb, hml, hown, hts⟩ (CX_set_ok l G hX hR (by decide) 2 1 (by decide +kernel) (by decide +kernel) (by decide +kernel)) (cwV 2 hts gL_limits_X5_set rfl rfl rfl (by decide +kernel) ⟨Nat.le_of_ble_eq_true rfl, Nat.le_of_ble_eq_true rfl⟩) (PJ.preV hE hJ.jx (xs_recv hE.1 hX (P_pre hP)) ⟨P_pre hP, D_tr (D_pre hD)⟩) rfl rfl hl.1 rfl (lv_room (Nat.le_of_ble_eq_true rfl)) dL_limits_158 ⟨Nat.le_of_ble_eq_true rfl, Nat.le_of_ble_eq_true rfl⟩) hP hD hS hJ0 hAl rfl (fun WC H locs hX hP hD hS hJ => ?_)
  have hR := PR_sav (B' := 70000) (f' := upd (fnL li_L3) 2 (nI 1)) (by decide) hR (okf_mono (by decide) (okf_set hR.1 (by decide) (by decide +kernel) (by decide +kernel)))
  rw [li_e5] at hX hR
  replace hX : XS G q0 (fnL li_L6) (fnL li_L3) (rgS ff6 0 (fnL li_L3)) 1 6 0 (fnL T0) (nI 1) WC := hX
  replace hR : PR 70000 (fnL li_L6) (fnL li_L3) (rgS ff6 0 (fnL li_L3)) 1 6 0 (fnL T0) (nI 1) := hR
  obtain ⟨ff7, hff7⟩ : ∃ F, F = rgS ff6 0 (fnL li_L3) := ⟨_, rfl⟩
  rw [← hff7] at hX hR
  refine tI (y := nI 10) (by decide +kernel) ?_
  refine lv_bipush (v := nI 10) hx hb dL_limits_161 (by decide +kernel) ?_
  refine lv_icmp_eq (tgt := 168) hx hb dL_limits_163 (by decide) (fun _ => ?_) (fun h => absurd h (by decide +kernel))
  refine lv_iconst (v := nI 0) hx hb dL_limits_168 (by decide +kernel) ?_
  refine lv_istore_n (lv' := [(1, .int (nI 0)), (0, .ref q0)]) hx hb dL_limits_169 rfl hl (by decide) rfl (fun ls hl => ?_)
  refine lv_iload_n hx hb dL_limits_170 rfl (lv_at hl 0 rfl) ?_
  refine lv_iconst (v := nI 5) hx hb dL_limits_171 (by decide +kernel) ?_
  refine lv_icmp_ge (tgt := 193) hx hb dL_limits_172 (by decide) (fun h => absurd h (by decide +kernel)) (fun _ => ?_)
  refine lv_aload_n hx hb dL_limits_175 rfl (lv_at hl 1 rfl) ?_
  refine lv_iload_n hx hb dL_limits_176 rfl (lv_at hl 0 rfl) ?_
  refine lv_bipush (v := nI 10) hx hb dL_limits_177 (by decide +kernel) ?_
  refine cx0 (st1 := [.int ((fnL li_L6) (3 + 0))]) (va_runV (As := [.int (nI 0), .int (nI 10)]) (rest := []) ⟨hx, hb, hml, hown, hts⟩ (CX_current_ok l G hX hR (by decide) 0 10 (by decide +kernel) (by decide +kernel)) (cwV 2 hts gL_limits_X5_current rfl rfl rfl (by decide +kernel) ⟨Nat.le_of_ble_eq_true rfl, Nat.le_of_ble_eq_true rfl⟩) (PJ.preV hE hJ.jx (xs_recv hE.1 hX (P_pre hP)) ⟨P_pre hP, D_tr (D_pre hD)⟩) rfl rfl hl.1 rfl (lv_room (Nat.le_of_ble_eq_true rfl)) dL_limits_179 ⟨Nat.le_of_ble_eq_true rfl, Nat.le_of_ble_eq_true rfl⟩) hP hD hS hJ0 hAl rfl (fun WC H locs hX hP hD hS hJ => ?_)
  have hR := PR_sav (B' := 80000) (f' := upd (fnL li_L6) (3 + 0) (nI 10)) (by decide) hR (okf_mono (by decide) (okf_cur hR.1 (by decide) (by decide)))
  rw [li_e6] at hX hR
  replace hX : XS G q0 (fnL li_L6) (fnL li_L3) (rgS ff7 1 (fnL li_L6)) 2 6 0 (fnL T0) (nI 1) WC := hX
  replace hR : PR 80000 (fnL li_L6) (fnL li_L3) (rgS ff7 1 (fnL li_L6)) 2 6 0 (fnL T0) (nI 1) := hR
  obtain ⟨ff8, hff8⟩ : ∃ F, F = rgS ff7 1 (fnL li_L6) := ⟨_, rfl⟩
  rw [← hff8] at hX hR
  refine tI (y := nI 10) (by decide +kernel) ?_
  refine lv_if_ge (tgt := 187) hx hb dL_limits_182 (by decide) (fun _ => ?_) (fun h => absurd h (by decide +kernel))
  refine lv_iinc (v := nI 1) (lv' := [(1, .int (nI 1)), (0, .ref q0)]) hx hb dL_limits_187 hl (k := 0) rfl (by decide +kernel) (by decide) rfl (fun ls hl => ?_)
  refine lv_goto (tgt := 170) hx hb dL_limits_190 (by decide) ?_
  refine lv_iload_n hx hb dL_limits_170 rfl (lv_at hl 0 rfl) ?_
  refine lv_iconst (v := nI 5) hx hb dL_limits_171 (by decide +kernel) ?_
  refine lv_icmp_ge (tgt := 193) hx hb dL_limits_172 (by decide) (fun h => absurd h (by decide +kernel)) (fun _ => ?_)
  refine lv_aload_n hx hb dL_limits_175 rfl (lv_at hl 1 rfl) ?_
  refine lv_iload_n hx hb dL_limits_176 rfl (lv_at hl 0 rfl) ?_
  refine lv_bipush (v := nI 10) hx hb dL_limits_177 (by decide +kernel) ?_
  refine cx0 (st1 := [.int ((fnL li_L6) (3 + 1))]) (va_runV (As := [.int (nI 1), .int (nI 10)]) (rest := []) ⟨hx, hb, hml, hown, hts⟩ (CX_current_ok l G hX hR (by decide) 1 10 (by decide +kernel) (by decide +kernel)) (cwV 2 hts gL_limits_X5_current rfl rfl rfl (by decide +kernel) ⟨Nat.le_of_ble_eq_true rfl, Nat.le_of_ble_eq_true rfl⟩) (PJ.preV hE hJ.jx (xs_recv hE.1 hX (P_pre hP)) ⟨P_pre hP, D_tr (D_pre hD)⟩) rfl rfl hl.1 rfl (lv_room (Nat.le_of_ble_eq_true rfl)) dL_limits_179 ⟨Nat.le_of_ble_eq_true rfl, Nat.le_of_ble_eq_true rfl⟩) hP hD hS hJ0 hAl rfl (fun WC H locs hX hP hD hS hJ => ?_)
  have hR := PR_sav (B' := 90000) (f' := upd (fnL li_L6) (3 + 1) (nI 10)) (by decide) hR (okf_mono (by decide) (okf_cur hR.1 (by decide) (by decide)))
  rw [li_e7] at hX hR
  replace hX : XS G q0 (fnL li_L6) (fnL li_L3) (rgS ff8 2 (fnL li_L6)) 3 6 0 (fnL T0) (nI 1) WC := hX
  replace hR : PR 90000 (fnL li_L6) (fnL li_L3) (rgS ff8 2 (fnL li_L6)) 3 6 0 (fnL T0) (nI 1) := hR
  obtain ⟨ff9, hff9⟩ : ∃ F, F = rgS ff8 2 (fnL li_L6) := ⟨_, rfl⟩
  rw [← hff9] at hX hR
  refine tI (y := nI 10) (by decide +kernel) ?_
  refine lv_if_ge (tgt := 187) hx hb dL_limits_182 (by decide) (fun _ => ?_) (fun h => absurd h (by decide +kernel))
  refine lv_iinc (v := nI 2) (lv' := [(1, .int (nI 2)), (0, .ref q0)]) hx hb dL_limits_187 hl (k := 0) rfl (by decide +kernel) (by decide) rfl (fun ls hl => ?_)
  refine lv_goto (tgt := 170) hx hb dL_limits_190 (by decide) ?_
  refine lv_iload_n hx hb dL_limits_170 rfl (lv_at hl 0 rfl) ?_
  refine lv_iconst (v := nI 5) hx hb dL_limits_171 (by decide +kernel) ?_
  refine lv_icmp_ge (tgt := 193) hx hb dL_limits_172 (by decide) (fun h => absurd h (by decide +kernel)) (fun _ => ?_)
  refine lv_aload_n hx hb dL_limits_175 rfl (lv_at hl 1 rfl) ?_
  refine lv_iload_n hx hb dL_limits_176 rfl (lv_at hl 0 rfl) ?_
  refine lv_bipush (v := nI 10) hx hb dL_limits_177 (by decide +kernel) ?_
  refine cx0 (st1 := [.int ((fnL li_L6) (3 + 2))]) (va_runV (As := [.int (nI 2), .int (nI 10)]) (rest := []) ⟨hx, hb, hml, hown, hts⟩ (CX_current_ok l G hX hR (by decide) 2 10 (by decide +kernel) (by decide +kernel)) (cwV 2 hts gL_limits_X5_current rfl rfl rfl (by decide +kernel) ⟨Nat.le_of_ble_eq_true rfl, Nat.le_of_ble_eq_true rfl⟩) (PJ.preV hE hJ.jx (xs_recv hE.1 hX (P_pre hP)) ⟨P_pre hP, D_tr (D_pre hD)⟩) rfl rfl hl.1 rfl (lv_room (Nat.le_of_ble_eq_true rfl)) dL_limits_179 ⟨Nat.le_of_ble_eq_true rfl, Nat.le_of_ble_eq_true rfl⟩) hP hD hS hJ0 hAl rfl (fun WC H locs hX hP hD hS hJ => ?_)
  have hR := PR_sav (B' := 100000) (f' := upd (fnL li_L6) (3 + 2) (nI 10)) (by decide) hR (okf_mono (by decide) (okf_cur hR.1 (by decide) (by decide)))
  rw [li_e8] at hX hR
  replace hX : XS G q0 (fnL li_L6) (fnL li_L3) (rgS ff9 3 (fnL li_L6)) 4 6 0 (fnL T0) (nI 1) WC := hX
  replace hR : PR 100000 (fnL li_L6) (fnL li_L3) (rgS ff9 3 (fnL li_L6)) 4 6 0 (fnL T0) (nI 1) := hR
  obtain ⟨ff10, hff10⟩ : ∃ F, F = rgS ff9 3 (fnL li_L6) := ⟨_, rfl⟩
  rw [← hff10] at hX hR
  refine tI (y := nI 10) (by decide +kernel) ?_
  refine lv_if_ge (tgt := 187) hx hb dL_limits_182 (by decide) (fun _ => ?_) (fun h => absurd h (by decide +kernel))
  refine lv_iinc (v := nI 3) (lv' := [(1, .int (nI 3)), (0, .ref q0)]) hx hb dL_limits_187 hl (k := 0) rfl (by decide +kernel) (by decide) rfl (fun ls hl => ?_)
  refine lv_goto (tgt := 170) hx hb dL_limits_190 (by decide) ?_
  refine lv_iload_n hx hb dL_limits_170 rfl (lv_at hl 0 rfl) ?_
  refine lv_iconst (v := nI 5) hx hb dL_limits_171 (by decide +kernel) ?_
  refine lv_icmp_ge (tgt := 193) hx hb dL_limits_172 (by decide) (fun h => absurd h (by decide +kernel)) (fun _ => ?_)
  refine lv_aload_n hx hb dL_limits_175 rfl (lv_at hl 1 rfl) ?_
  refine lv_iload_n hx hb dL_limits_176 rfl (lv_at hl 0 rfl) ?_
  refine lv_bipush (v := nI 10) hx hb dL_limits_177 (by decide +kernel) ?_
  refine cx0 (st1 := [.int ((fnL li_L6) (3 + 3))]) (va_runV (As := [.int (nI 3), .int (nI 10)]) (rest := []) ⟨hx, hb, hml, hown, hts⟩ (CX_current_ok l G hX hR (by decide) 3 10 (by decide +kernel) (by decide +kernel)) (cwV 2 hts gL_limits_X5_current rfl rfl rfl (by decide +kernel) ⟨Nat.le_of_ble_eq_true rfl, Nat.le_of_ble_eq_true rfl⟩) (PJ.preV hE hJ.jx (xs_recv hE.1 hX (P_pre hP)) ⟨P_pre hP, D_tr (D_pre hD)⟩) rfl rfl hl.1 rfl (lv_room (Nat.le_of_ble_eq_true rfl)) dL_limits_179 ⟨Nat.le_of_ble_eq_true rfl, Nat.le_of_ble_eq_true rfl⟩) hP hD hS hJ0 hAl rfl (fun WC H locs hX hP hD hS hJ => ?_)
  have hR := PR_sav (B' := 110000) (f' := upd (fnL li_L6) (3 + 3) (nI 10)) (by decide) hR (okf_mono (by decide) (okf_cur hR.1 (by decide) (by decide)))
  rw [li_e9] at hX hR
  replace hX : XS G q0 (fnL li_L7) (fnL li_L3) (rgS ff10 4 (fnL li_L6)) 5 6 0 (fnL T0) (nI 1) WC := hX
  replace hR : PR 110000 (fnL li_L7) (fnL li_L3) (rgS ff10 4 (fnL li_L6)) 5 6 0 (fnL T0) (nI 1) := hR
  obtain ⟨ff11, hff11⟩ : ∃ F, F = rgS ff10 4 (fnL li_L6) := ⟨_, rfl⟩
  rw [← hff11] at hX hR
  refine tI (y := nI 40) (by decide +kernel) ?_
  refine lv_if_ge (tgt := 187) hx hb dL_limits_182 (by decide) (fun _ => ?_) (fun h => absurd h (by decide +kernel))
  refine lv_iinc (v := nI 4) (lv' := [(1, .int (nI 4)), (0, .ref q0)]) hx hb dL_limits_187 hl (k := 0) rfl (by decide +kernel) (by decide) rfl (fun ls hl => ?_)
  refine lv_goto (tgt := 170) hx hb dL_limits_190 (by decide) ?_
  refine lv_iload_n hx hb dL_limits_170 rfl (lv_at hl 0 rfl) ?_
  refine lv_iconst (v := nI 5) hx hb dL_limits_171 (by decide +kernel) ?_
  refine lv_icmp_ge (tgt := 193) hx hb dL_limits_172 (by decide) (fun h => absurd h (by decide +kernel)) (fun _ => ?_)
  refine lv_aload_n hx hb dL_limits_175 rfl (lv_at hl 1 rfl) ?_
  refine lv_iload_n hx hb dL_limits_176 rfl (lv_at hl 0 rfl) ?_
  refine lv_bipush (v := nI 10) hx hb dL_limits_177 (by decide +kernel) ?_
  refine cx0 (st1 := [.int ((fnL li_L7) (3 + 4))]) (va_runV (As := [.int (nI 4), .int (nI 10)]) (rest := []) ⟨hx, hb, hml, hown, hts⟩ (CX_current_ok l G hX hR (by decide) 4 10 (by decide +kernel) (by decide +kernel)) (cwV 2 hts gL_limits_X5_current rfl rfl rfl (by decide +kernel) ⟨Nat.le_of_ble_eq_true rfl, Nat.le_of_ble_eq_true rfl⟩) (PJ.preV hE hJ.jx (xs_recv hE.1 hX (P_pre hP)) ⟨P_pre hP, D_tr (D_pre hD)⟩) rfl rfl hl.1 rfl (lv_room (Nat.le_of_ble_eq_true rfl)) dL_limits_179 ⟨Nat.le_of_ble_eq_true rfl, Nat.le_of_ble_eq_true rfl⟩) hP hD hS hJ0 hAl rfl (fun WC H locs hX hP hD hS hJ => ?_)
  have hR := PR_sav (B' := 120000) (f' := upd (fnL li_L7) (3 + 4) (nI 10)) (by decide) hR (okf_mono (by decide) (okf_cur hR.1 (by decide) (by decide)))
  rw [li_e10] at hX hR
  replace hX : XS G q0 (fnL li_L7) (fnL li_L3) (rgS ff11 5 (fnL li_L7)) 0 6 0 (fnL T0) (nI 1) WC := hX
  replace hR : PR 120000 (fnL li_L7) (fnL li_L3) (rgS ff11 5 (fnL li_L7)) 0 6 0 (fnL T0) (nI 1) := hR
  obtain ⟨ff12, hff12⟩ : ∃ F, F = rgS ff11 5 (fnL li_L7) := ⟨_, rfl⟩
  rw [← hff12] at hX hR
  refine tI (y := nI 10) (by decide +kernel) ?_
  refine lv_if_ge (tgt := 187) hx hb dL_limits_182 (by decide) (fun _ => ?_) (fun h => absurd h (by decide +kernel))
  exact li_s1 hlt hL9 hX hR hP hD hS hl

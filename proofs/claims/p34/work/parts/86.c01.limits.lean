set_option maxHeartbeats 8000000 in
set_option maxRecDepth 100000 in
theorem li_s2 {p : Program} {l : Launch} {e : Env} {s : State} {m : MethodId} {below : List Frame} {meth : Method} {c : Code} {G : eG} {lo : Nat} (hlt : l.stackTraces = false) (hL : LC cL_limits 3 wsL_limits p s m meth c ([] : List Value).toArray G lo) {q366 : Nat} {ff5 : Nat → Nat → Int32} {WC : va_W} {H : Heap} {locs : List Loc} {ls : Array Slot} (hX : XS G q366 (fnL li_L17) (fnL L0) ff5 0 5 0 (fnL T0) (nI 0) WC) (hR : PR 50000 (fnL li_L17) (fnL L0) ff5 0 5 0 (fnL T0) (nI 0)) (hP : va_P G.1 vwCl (WC ++ []) H) (hD : va_D (AA s) (WC ++ [])) (hS : va_S (AA s) s.heap H locs) (hl : lv_has ls 3 [(2, .int (nI 4)), (1, .ref q366)]) : W p l e ({ frames := 10, cells := 368, slots := 2936, locals := 193 }) s m ([] : List Value).toArray below meth c H locs 316 2624 (MQ below (MV (some (.int (nI 1))) (fun _ => True) (AA s)) ([] : List Value).toArray s 368 2936 (AA s)) (F0 m 398 ls []) := by
  have hL9 := hL
  obtain ⟨hx, hb, hml, hown, hts, hE, hJ0, hF0, hr, hlocks⟩ := hL
  have hAl : ∀ q, AA s q → lo ≤ q := fun q h => Nat.le_trans hJ0.1 h
  have hA : ∀ q : Nat, s.heap.size ≤ q → AA s q := fun _ h => h
  have hJ : JB lo s _ := hJ0.S hAl hS
  refine lv_iinc (v := nI 5) (lv' := [(2, .int (nI 5)), (1, .ref q366)]) hx hb dL_limits_398 hl (k := 0) rfl (by decide +kernel) (by decide) rfl (fun ls hl => ?_)
  refine lv_goto (tgt := 376) hx hb dL_limits_401 (by decide) ?_
  refine lv_iload_n hx hb dL_limits_376 rfl (lv_at hl 0 rfl) ?_
  refine lv_bipush (v := nI 10) hx hb dL_limits_377 (by decide +kernel) ?_
  refine lv_icmp_ge (tgt := 404) hx hb dL_limits_379 (by decide) (fun h => absurd h (by decide +kernel)) (fun _ => ?_)
  refine lv_aload_n hx hb dL_limits_382 rfl (lv_at hl 1 rfl) ?_
  refine lv_iconst (v := nI 1) hx hb dL_limits_383 (by decide +kernel) ?_
  refine lv_iconst (v := nI 1) hx hb dL_limits_384 (by decide +kernel) ?_
  refine lv_iload_n hx hb dL_limits_385 rfl (lv_at hl 0 rfl) ?_
  refine lv_iadd hx hb dL_limits_386 ?_
  refine tI (y := nI 6) (by decide +kernel) ?_
  refine cx0 (st1 := [.int ((fnL li_L17) (57 + (11 * 1)) + nI 1)]) (va_runV (As := [.int (nI 1), .int (nI 6)]) (rest := []) ⟨hx, hb, hml, hown, hts⟩ (CX_arrive_ok l G hX hR (by decide) 1 6 (by decide +kernel) (by decide +kernel) (by decide +kernel) (by decide +kernel)) (cwV 2 hts gL_limits_X5_arrive rfl rfl rfl (by decide +kernel) ⟨Nat.le_of_ble_eq_true rfl, Nat.le_of_ble_eq_true rfl⟩) (PJ.preV hE hJ.jx (xs_recv hE.1 hX (P_pre hP)) ⟨P_pre hP, D_tr (D_pre hD)⟩) rfl rfl hl.1 rfl (lv_room (Nat.le_of_ble_eq_true rfl)) dL_limits_387 ⟨Nat.le_of_ble_eq_true rfl, Nat.le_of_ble_eq_true rfl⟩) hP hD hS hJ0 hAl rfl (fun WC H locs hX hP hD hS hJ => ?_)
  have hR := PR_sav (B' := 60000) (f' := fArr (fnL li_L17) 1 (nI 6)) (by decide) hR (okf_mono (by decide) (okf_arr hR.1 (by decide) (by decide) (by decide +kernel)))
  rw [li_e21] at hX hR
  replace hX : XS G q366 (fnL li_L18) (fnL L0) (rgS ff5 5 (fnL li_L17)) 0 6 0 (fnL T0) (nI 0) WC := hX
  replace hR : PR 60000 (fnL li_L18) (fnL L0) (rgS ff5 5 (fnL li_L17)) 0 6 0 (fnL T0) (nI 0) := hR
  obtain ⟨ff6, hff6⟩ : ∃ F, F = rgS ff5 5 (fnL li_L17) := ⟨_, rfl⟩
  rw [← hff6] at hX hR
  refine tI (y := nI 6) (by decide +kernel) ?_
  refine lv_iload_n hx hb dL_limits_390 rfl (lv_at hl 0 rfl) ?_
  refine lv_iconst (v := nI 1) hx hb dL_limits_391 (by decide +kernel) ?_
  refine lv_iadd hx hb dL_limits_392 ?_
  refine tI (y := nI 6) (by decide +kernel) ?_
  refine lv_icmp_eq (tgt := 398) hx hb dL_limits_393 (by decide) (fun _ => ?_) (fun h => absurd h (by decide +kernel))
  refine lv_iinc (v := nI 6) (lv' := [(2, .int (nI 6)), (1, .ref q366)]) hx hb dL_limits_398 hl (k := 0) rfl (by decide +kernel) (by decide) rfl (fun ls hl => ?_)
  refine lv_goto (tgt := 376) hx hb dL_limits_401 (by decide) ?_
  refine lv_iload_n hx hb dL_limits_376 rfl (lv_at hl 0 rfl) ?_
  refine lv_bipush (v := nI 10) hx hb dL_limits_377 (by decide +kernel) ?_
  refine lv_icmp_ge (tgt := 404) hx hb dL_limits_379 (by decide) (fun h => absurd h (by decide +kernel)) (fun _ => ?_)
  refine lv_aload_n hx hb dL_limits_382 rfl (lv_at hl 1 rfl) ?_
  refine lv_iconst (v := nI 1) hx hb dL_limits_383 (by decide +kernel) ?_
  refine lv_iconst (v := nI 1) hx hb dL_limits_384 (by decide +kernel) ?_
  refine lv_iload_n hx hb dL_limits_385 rfl (lv_at hl 0 rfl) ?_
  refine lv_iadd hx hb dL_limits_386 ?_
  refine tI (y := nI 7) (by decide +kernel) ?_
  refine cx0 (st1 := [.int ((fnL li_L18) (57 + (11 * 1)) + nI 1)]) (va_runV (As := [.int (nI 1), .int (nI 7)]) (rest := []) ⟨hx, hb, hml, hown, hts⟩ (CX_arrive_ok l G hX hR (by decide) 1 7 (by decide +kernel) (by decide +kernel) (by decide +kernel) (by decide +kernel)) (cwV 2 hts gL_limits_X5_arrive rfl rfl rfl (by decide +kernel) ⟨Nat.le_of_ble_eq_true rfl, Nat.le_of_ble_eq_true rfl⟩) (PJ.preV hE hJ.jx (xs_recv hE.1 hX (P_pre hP)) ⟨P_pre hP, D_tr (D_pre hD)⟩) rfl rfl hl.1 rfl (lv_room (Nat.le_of_ble_eq_true rfl)) dL_limits_387 ⟨Nat.le_of_ble_eq_true rfl, Nat.le_of_ble_eq_true rfl⟩) hP hD hS hJ0 hAl rfl (fun WC H locs hX hP hD hS hJ => ?_)
  have hR := PR_sav (B' := 70000) (f' := fArr (fnL li_L18) 1 (nI 7)) (by decide) hR (okf_mono (by decide) (okf_arr hR.1 (by decide) (by decide) (by decide +kernel)))
  rw [li_e22] at hX hR
  replace hX : XS G q366 (fnL li_L19) (fnL L0) (rgS ff6 0 (fnL li_L18)) 1 6 0 (fnL T0) (nI 0) WC := hX
  replace hR : PR 70000 (fnL li_L19) (fnL L0) (rgS ff6 0 (fnL li_L18)) 1 6 0 (fnL T0) (nI 0) := hR
  obtain ⟨ff7, hff7⟩ : ∃ F, F = rgS ff6 0 (fnL li_L18) := ⟨_, rfl⟩
  rw [← hff7] at hX hR
  refine tI (y := nI 7) (by decide +kernel) ?_
  refine lv_iload_n hx hb dL_limits_390 rfl (lv_at hl 0 rfl) ?_
  refine lv_iconst (v := nI 1) hx hb dL_limits_391 (by decide +kernel) ?_
  refine lv_iadd hx hb dL_limits_392 ?_
  refine tI (y := nI 7) (by decide +kernel) ?_
  refine lv_icmp_eq (tgt := 398) hx hb dL_limits_393 (by decide) (fun _ => ?_) (fun h => absurd h (by decide +kernel))
  refine lv_iinc (v := nI 7) (lv' := [(2, .int (nI 7)), (1, .ref q366)]) hx hb dL_limits_398 hl (k := 0) rfl (by decide +kernel) (by decide) rfl (fun ls hl => ?_)
  refine lv_goto (tgt := 376) hx hb dL_limits_401 (by decide) ?_
  refine lv_iload_n hx hb dL_limits_376 rfl (lv_at hl 0 rfl) ?_
  refine lv_bipush (v := nI 10) hx hb dL_limits_377 (by decide +kernel) ?_
  refine lv_icmp_ge (tgt := 404) hx hb dL_limits_379 (by decide) (fun h => absurd h (by decide +kernel)) (fun _ => ?_)
  refine lv_aload_n hx hb dL_limits_382 rfl (lv_at hl 1 rfl) ?_
  refine lv_iconst (v := nI 1) hx hb dL_limits_383 (by decide +kernel) ?_
  refine lv_iconst (v := nI 1) hx hb dL_limits_384 (by decide +kernel) ?_
  refine lv_iload_n hx hb dL_limits_385 rfl (lv_at hl 0 rfl) ?_
  refine lv_iadd hx hb dL_limits_386 ?_
  refine tI (y := nI 8) (by decide +kernel) ?_
  refine cx0 (st1 := [.int ((fnL li_L19) (57 + (11 * 1)) + nI 1)]) (va_runV (As := [.int (nI 1), .int (nI 8)]) (rest := []) ⟨hx, hb, hml, hown, hts⟩ (CX_arrive_ok l G hX hR (by decide) 1 8 (by decide +kernel) (by decide +kernel) (by decide +kernel) (by decide +kernel)) (cwV 2 hts gL_limits_X5_arrive rfl rfl rfl (by decide +kernel) ⟨Nat.le_of_ble_eq_true rfl, Nat.le_of_ble_eq_true rfl⟩) (PJ.preV hE hJ.jx (xs_recv hE.1 hX (P_pre hP)) ⟨P_pre hP, D_tr (D_pre hD)⟩) rfl rfl hl.1 rfl (lv_room (Nat.le_of_ble_eq_true rfl)) dL_limits_387 ⟨Nat.le_of_ble_eq_true rfl, Nat.le_of_ble_eq_true rfl⟩) hP hD hS hJ0 hAl rfl (fun WC H locs hX hP hD hS hJ => ?_)
  have hR := PR_sav (B' := 80000) (f' := fArr (fnL li_L19) 1 (nI 8)) (by decide) hR (okf_mono (by decide) (okf_arr hR.1 (by decide) (by decide) (by decide +kernel)))
  rw [li_e23] at hX hR
  replace hX : XS G q366 (fnL li_L20) (fnL L0) (rgS ff7 1 (fnL li_L19)) 2 6 0 (fnL T0) (nI 0) WC := hX
  replace hR : PR 80000 (fnL li_L20) (fnL L0) (rgS ff7 1 (fnL li_L19)) 2 6 0 (fnL T0) (nI 0) := hR
  obtain ⟨ff8, hff8⟩ : ∃ F, F = rgS ff7 1 (fnL li_L19) := ⟨_, rfl⟩
  rw [← hff8] at hX hR
  refine tI (y := nI 8) (by decide +kernel) ?_
  refine lv_iload_n hx hb dL_limits_390 rfl (lv_at hl 0 rfl) ?_
  refine lv_iconst (v := nI 1) hx hb dL_limits_391 (by decide +kernel) ?_
  refine lv_iadd hx hb dL_limits_392 ?_
  refine tI (y := nI 8) (by decide +kernel) ?_
  refine lv_icmp_eq (tgt := 398) hx hb dL_limits_393 (by decide) (fun _ => ?_) (fun h => absurd h (by decide +kernel))
  refine lv_iinc (v := nI 8) (lv' := [(2, .int (nI 8)), (1, .ref q366)]) hx hb dL_limits_398 hl (k := 0) rfl (by decide +kernel) (by decide) rfl (fun ls hl => ?_)
  refine lv_goto (tgt := 376) hx hb dL_limits_401 (by decide) ?_
  refine lv_iload_n hx hb dL_limits_376 rfl (lv_at hl 0 rfl) ?_
  refine lv_bipush (v := nI 10) hx hb dL_limits_377 (by decide +kernel) ?_
  refine lv_icmp_ge (tgt := 404) hx hb dL_limits_379 (by decide) (fun h => absurd h (by decide +kernel)) (fun _ => ?_)
  refine lv_aload_n hx hb dL_limits_382 rfl (lv_at hl 1 rfl) ?_
  refine lv_iconst (v := nI 1) hx hb dL_limits_383 (by decide +kernel) ?_
  refine lv_iconst (v := nI 1) hx hb dL_limits_384 (by decide +kernel) ?_
  refine lv_iload_n hx hb dL_limits_385 rfl (lv_at hl 0 rfl) ?_
  refine lv_iadd hx hb dL_limits_386 ?_
  refine tI (y := nI 9) (by decide +kernel) ?_
  refine cx0 (st1 := [.int ((fnL li_L20) (57 + (11 * 1)) + nI 1)]) (va_runV (As := [.int (nI 1), .int (nI 9)]) (rest := []) ⟨hx, hb, hml, hown, hts⟩ (CX_arrive_ok l G hX hR (by decide) 1 9 (by decide +kernel) (by decide +kernel) (by decide +kernel) (by decide +kernel)) (cwV 2 hts gL_limits_X5_arrive rfl rfl rfl (by decide +kernel) ⟨Nat.le_of_ble_eq_true rfl, Nat.le_of_ble_eq_true rfl⟩) (PJ.preV hE hJ.jx (xs_recv hE.1 hX (P_pre hP)) ⟨P_pre hP, D_tr (D_pre hD)⟩) rfl rfl hl.1 rfl (lv_room (Nat.le_of_ble_eq_true rfl)) dL_limits_387 ⟨Nat.le_of_ble_eq_true rfl, Nat.le_of_ble_eq_true rfl⟩) hP hD hS hJ0 hAl rfl (fun WC H locs hX hP hD hS hJ => ?_)
  have hR := PR_sav (B' := 90000) (f' := fArr (fnL li_L20) 1 (nI 9)) (by decide) hR (okf_mono (by decide) (okf_arr hR.1 (by decide) (by decide) (by decide +kernel)))
  rw [li_e24] at hX hR
  replace hX : XS G q366 (fnL li_L21) (fnL L0) (rgS ff8 2 (fnL li_L20)) 3 6 0 (fnL T0) (nI 0) WC := hX
  replace hR : PR 90000 (fnL li_L21) (fnL L0) (rgS ff8 2 (fnL li_L20)) 3 6 0 (fnL T0) (nI 0) := hR
  obtain ⟨ff9, hff9⟩ : ∃ F, F = rgS ff8 2 (fnL li_L20) := ⟨_, rfl⟩
  rw [← hff9] at hX hR
  refine tI (y := nI 9) (by decide +kernel) ?_
  refine lv_iload_n hx hb dL_limits_390 rfl (lv_at hl 0 rfl) ?_
  refine lv_iconst (v := nI 1) hx hb dL_limits_391 (by decide +kernel) ?_
  refine lv_iadd hx hb dL_limits_392 ?_
  refine tI (y := nI 9) (by decide +kernel) ?_
  refine lv_icmp_eq (tgt := 398) hx hb dL_limits_393 (by decide) (fun _ => ?_) (fun h => absurd h (by decide +kernel))
  refine lv_iinc (v := nI 9) (lv' := [(2, .int (nI 9)), (1, .ref q366)]) hx hb dL_limits_398 hl (k := 0) rfl (by decide +kernel) (by decide) rfl (fun ls hl => ?_)
  refine lv_goto (tgt := 376) hx hb dL_limits_401 (by decide) ?_
  refine lv_iload_n hx hb dL_limits_376 rfl (lv_at hl 0 rfl) ?_
  refine lv_bipush (v := nI 10) hx hb dL_limits_377 (by decide +kernel) ?_
  refine lv_icmp_ge (tgt := 404) hx hb dL_limits_379 (by decide) (fun h => absurd h (by decide +kernel)) (fun _ => ?_)
  refine lv_aload_n hx hb dL_limits_382 rfl (lv_at hl 1 rfl) ?_
  refine lv_iconst (v := nI 1) hx hb dL_limits_383 (by decide +kernel) ?_
  refine lv_iconst (v := nI 1) hx hb dL_limits_384 (by decide +kernel) ?_
  refine lv_iload_n hx hb dL_limits_385 rfl (lv_at hl 0 rfl) ?_
  refine lv_iadd hx hb dL_limits_386 ?_
  refine tI (y := nI 10) (by decide +kernel) ?_
  refine cx0 (st1 := [.int ((fnL li_L21) (57 + (11 * 1)) + nI 1)]) (va_runV (As := [.int (nI 1), .int (nI 10)]) (rest := []) ⟨hx, hb, hml, hown, hts⟩ (CX_arrive_ok l G hX hR (by decide) 1 10 (by decide +kernel) (by decide +kernel) (by decide +kernel) (by decide +kernel)) (cwV 2 hts gL_limits_X5_arrive rfl rfl rfl (by decide +kernel) ⟨Nat.le_of_ble_eq_true rfl, Nat.le_of_ble_eq_true rfl⟩) (PJ.preV hE hJ.jx (xs_recv hE.1 hX (P_pre hP)) ⟨P_pre hP, D_tr (D_pre hD)⟩) rfl rfl hl.1 rfl (lv_room (Nat.le_of_ble_eq_true rfl)) dL_limits_387 ⟨Nat.le_of_ble_eq_true rfl, Nat.le_of_ble_eq_true rfl⟩) hP hD hS hJ0 hAl rfl (fun WC H locs hX hP hD hS hJ => ?_)
  have hR := PR_sav (B' := 100000) (f' := fArr (fnL li_L21) 1 (nI 10)) (by decide) hR (okf_mono (by decide) (okf_arr hR.1 (by decide) (by decide) (by decide +kernel)))
  rw [li_e25] at hX hR
  replace hX : XS G q366 (fnL li_L22) (fnL L0) (rgS ff9 3 (fnL li_L21)) 4 6 0 (fnL T0) (nI 0) WC := hX
  replace hR : PR 100000 (fnL li_L22) (fnL L0) (rgS ff9 3 (fnL li_L21)) 4 6 0 (fnL T0) (nI 0) := hR
  obtain ⟨ff10, hff10⟩ : ∃ F, F = rgS ff9 3 (fnL li_L21) := ⟨_, rfl⟩
  rw [← hff10] at hX hR
  refine tI (y := nI 10) (by decide +kernel) ?_
  refine lv_iload_n hx hb dL_limits_390 rfl (lv_at hl 0 rfl) ?_
  refine lv_iconst (v := nI 1) hx hb dL_limits_391 (by decide +kernel) ?_
  refine lv_iadd hx hb dL_limits_392 ?_
  refine tI (y := nI 10) (by decide +kernel) ?_
  refine lv_icmp_eq (tgt := 398) hx hb dL_limits_393 (by decide) (fun _ => ?_) (fun h => absurd h (by decide +kernel))
  refine lv_iinc (v := nI 10) (lv' := [(2, .int (nI 10)), (1, .ref q366)]) hx hb dL_limits_398 hl (k := 0) rfl (by decide +kernel) (by decide) rfl (fun ls hl => ?_)
  refine lv_goto (tgt := 376) hx hb dL_limits_401 (by decide) ?_
  refine lv_iload_n hx hb dL_limits_376 rfl (lv_at hl 0 rfl) ?_
  refine lv_bipush (v := nI 10) hx hb dL_limits_377 (by decide +kernel) ?_
  refine lv_icmp_ge (tgt := 404) hx hb dL_limits_379 (by decide) (fun _ => ?_) (fun h => absurd h (by decide +kernel))
  refine lv_aload_n hx hb dL_limits_404 rfl (lv_at hl 1 rfl) ?_
  refine lv_iconst (v := nI 0) hx hb dL_limits_405 (by decide +kernel) ?_
  refine lv_iconst (v := nI 1) hx hb dL_limits_406 (by decide +kernel) ?_
  refine lv_iconst (v := nI 1) hx hb dL_limits_407 (by decide +kernel) ?_
  refine cxc (st1 := [.int (-13)]) (vx_runSW (As := [.ref q366, .int (nI 0), .int (nI 1), .int (nI 1)]) (rest := []) ⟨hx, hb, hml, hown, hts⟩ (CC_arrive_e3 l hlt G hX hR (by decide) 1 1 (by decide +kernel) (by decide +kernel) (by decide +kernel) (by decide +kernel)) (vx_cwSW 4 hts gL_limits_L_call rfl rfl rfl (by decide +kernel) ⟨Nat.le_of_ble_eq_true rfl, Nat.le_of_ble_eq_true rfl⟩) (PK.preS hE hJ ⟨P_pre hP, D_al hAl (D_pre hD)⟩) rfl rfl hl.1 rfl (lv_room (Nat.le_of_ble_eq_true rfl)) dL_limits_408 ⟨Nat.le_of_ble_eq_true rfl, Nat.le_of_ble_eq_true rfl⟩) hP hD hS hJ0 hAl rfl (fun WC H locs hX hP hD hS hJ => ?_)
  refine lv_bipush (v := -13) hx hb dL_limits_411 (by decide +kernel) ?_
  refine lv_icmp_ne (tgt := 436) hx hb dL_limits_413 (by decide) (fun h => absurd h (by decide +kernel)) (fun _ => ?_)
  refine lv_aload_n hx hb dL_limits_416 rfl (lv_at hl 1 rfl) ?_
  refine lv_iconst (v := nI 1) hx hb dL_limits_417 (by decide +kernel) ?_
  refine lv_iconst (v := nI 0) hx hb dL_limits_418 (by decide +kernel) ?_
  refine lv_iconst (v := nI 0) hx hb dL_limits_419 (by decide +kernel) ?_
  refine cxc (st1 := [.int (-13)]) (vx_runSW (As := [.ref q366, .int (nI 1), .int (nI 0), .int (nI 0)]) (rest := []) ⟨hx, hb, hml, hown, hts⟩ (CC_load_e2 l hlt G hX hR (by decide) 0 (by decide +kernel) (by decide +kernel) (nI 0)) (vx_cwSW 4 hts gL_limits_L_call rfl rfl rfl (by decide +kernel) ⟨Nat.le_of_ble_eq_true rfl, Nat.le_of_ble_eq_true rfl⟩) (PK.preS hE hJ ⟨P_pre hP, D_al hAl (D_pre hD)⟩) rfl rfl hl.1 rfl (lv_room (Nat.le_of_ble_eq_true rfl)) dL_limits_420 ⟨Nat.le_of_ble_eq_true rfl, Nat.le_of_ble_eq_true rfl⟩) hP hD hS hJ0 hAl rfl (fun WC H locs hX hP hD hS hJ => ?_)
  refine lv_bipush (v := -13) hx hb dL_limits_423 (by decide +kernel) ?_
  refine lv_icmp_ne (tgt := 436) hx hb dL_limits_425 (by decide) (fun h => absurd h (by decide +kernel)) (fun _ => ?_)
  refine lv_aload_n hx hb dL_limits_428 rfl (lv_at hl 1 rfl) ?_
  refine cx0 (st1 := [.int (nI (fHrs (fnL li_L22)))]) (va_runV (As := []) (rest := []) ⟨hx, hb, hml, hown, hts⟩ (CX_cross_ok l G hX hR (by decide) (okf_cro hR.1).1 (by decide +kernel)) (cwV 0 hts gL_limits_X5_cross rfl rfl rfl (by decide +kernel) ⟨Nat.le_of_ble_eq_true rfl, Nat.le_of_ble_eq_true rfl⟩) (PJ.preV hE hJ.jx (xs_recv hE.1 hX (P_pre hP)) ⟨P_pre hP, D_tr (D_pre hD)⟩) rfl rfl hl.1 rfl (lv_room (Nat.le_of_ble_eq_true rfl)) dL_limits_429 ⟨Nat.le_of_ble_eq_true rfl, Nat.le_of_ble_eq_true rfl⟩) hP hD hS hJ0 hAl rfl (fun WC H locs hX hP hD hS hJ => ?_)
  have hR := PR_sav (B' := 110000) (f' := fCrs (fnL li_L22)) (by decide) hR (okf_mono (by decide) (okf_crs (by decide) hR.1))
  rw [li_e26] at hX hR
  replace hX : XS G q366 (fnL li_L23) (fnL L0) (rgS ff10 4 (fnL li_L22)) 5 6 0 (fnL T0) (nI 0) WC := hX
  replace hR : PR 110000 (fnL li_L23) (fnL L0) (rgS ff10 4 (fnL li_L22)) 5 6 0 (fnL T0) (nI 0) := hR
  obtain ⟨ff11, hff11⟩ : ∃ F, F = rgS ff10 4 (fnL li_L22) := ⟨_, rfl⟩
  rw [← hff11] at hX hR
  refine tI (y := nI 1) (by decide +kernel) ?_
  refine lv_iconst (v := nI 1) hx hb dL_limits_432 (by decide +kernel) ?_
  refine lv_icmp_eq (tgt := 438) hx hb dL_limits_433 (by decide) (fun _ => ?_) (fun h => absurd h (by decide +kernel))
  refine lv_iconst (v := nI 0) hx hb dL_limits_438 (by decide +kernel) ?_
  refine lv_istore_n (lv' := [(2, .int (nI 0)), (1, .ref q366)]) hx hb dL_limits_439 rfl hl (by decide) rfl (fun ls hl => ?_)
  refine lv_iload_n hx hb dL_limits_440 rfl (lv_at hl 0 rfl) ?_
  refine lv_iconst (v := nI 4) hx hb dL_limits_441 (by decide +kernel) ?_
  refine lv_icmp_ge (tgt := 464) hx hb dL_limits_442 (by decide) (fun h => absurd h (by decide +kernel)) (fun _ => ?_)
  refine lv_aload_n hx hb dL_limits_445 rfl (lv_at hl 1 rfl) ?_
  refine lv_iconst (v := nI 1) hx hb dL_limits_446 (by decide +kernel) ?_
  refine cx0 (st1 := [.int ((fnL li_L23) (fAt (fnL li_L23) + 1))]) (va_runV (As := [.int (nI 1)]) (rest := []) ⟨hx, hb, hml, hown, hts⟩ (CX_load_ok l G hX hR (by decide) 1 (by decide +kernel) (by decide +kernel)) (cwV 1 hts gL_limits_X5_load rfl rfl rfl (by decide +kernel) ⟨Nat.le_of_ble_eq_true rfl, Nat.le_of_ble_eq_true rfl⟩) (PJ.preV hE hJ.jx (xs_recv hE.1 hX (P_pre hP)) ⟨P_pre hP, D_tr (D_pre hD)⟩) rfl rfl hl.1 rfl (lv_room (Nat.le_of_ble_eq_true rfl)) dL_limits_447 ⟨Nat.le_of_ble_eq_true rfl, Nat.le_of_ble_eq_true rfl⟩) hP hD hS hJ0 hAl rfl (fun WC H locs hX hP hD hS hJ => ?_)
  have hR := PR_sav (B' := 120000) (f' := fLod (fnL li_L23) 1) (by decide) hR (okf_mono (by decide) (okf_lod hR.1 (by decide) (by decide +kernel)))
  rw [li_e27] at hX hR
  replace hX : XS G q366 (fnL li_L24) (fnL L0) (rgS ff11 5 (fnL li_L23)) 0 6 0 (fnL T0) (nI 0) WC := hX
  replace hR : PR 120000 (fnL li_L24) (fnL L0) (rgS ff11 5 (fnL li_L23)) 0 6 0 (fnL T0) (nI 0) := hR
  obtain ⟨ff12, hff12⟩ : ∃ F, F = rgS ff11 5 (fnL li_L23) := ⟨_, rfl⟩
  rw [← hff12] at hX hR
  refine tI (y := nI 1) (by decide +kernel) ?_
  refine lv_iload_n hx hb dL_limits_450 rfl (lv_at hl 0 rfl) ?_
  refine lv_iconst (v := nI 1) hx hb dL_limits_451 (by decide +kernel) ?_
  refine lv_iadd hx hb dL_limits_452 ?_
  refine tI (y := nI 1) (by decide +kernel) ?_
  refine lv_icmp_eq (tgt := 458) hx hb dL_limits_453 (by decide) (fun _ => ?_) (fun h => absurd h (by decide +kernel))
  refine lv_iinc (v := nI 1) (lv' := [(2, .int (nI 1)), (1, .ref q366)]) hx hb dL_limits_458 hl (k := 0) rfl (by decide +kernel) (by decide) rfl (fun ls hl => ?_)
  refine lv_goto (tgt := 440) hx hb dL_limits_461 (by decide) ?_
  refine lv_iload_n hx hb dL_limits_440 rfl (lv_at hl 0 rfl) ?_
  refine lv_iconst (v := nI 4) hx hb dL_limits_441 (by decide +kernel) ?_
  refine lv_icmp_ge (tgt := 464) hx hb dL_limits_442 (by decide) (fun h => absurd h (by decide +kernel)) (fun _ => ?_)
  refine lv_aload_n hx hb dL_limits_445 rfl (lv_at hl 1 rfl) ?_
  refine lv_iconst (v := nI 1) hx hb dL_limits_446 (by decide +kernel) ?_
  refine cx0 (st1 := [.int ((fnL li_L24) (fAt (fnL li_L24) + 1))]) (va_runV (As := [.int (nI 1)]) (rest := []) ⟨hx, hb, hml, hown, hts⟩ (CX_load_ok l G hX hR (by decide) 1 (by decide +kernel) (by decide +kernel)) (cwV 1 hts gL_limits_X5_load rfl rfl rfl (by decide +kernel) ⟨Nat.le_of_ble_eq_true rfl, Nat.le_of_ble_eq_true rfl⟩) (PJ.preV hE hJ.jx (xs_recv hE.1 hX (P_pre hP)) ⟨P_pre hP, D_tr (D_pre hD)⟩) rfl rfl hl.1 rfl (lv_room (Nat.le_of_ble_eq_true rfl)) dL_limits_447 ⟨Nat.le_of_ble_eq_true rfl, Nat.le_of_ble_eq_true rfl⟩) hP hD hS hJ0 hAl rfl (fun WC H locs hX hP hD hS hJ => ?_)
  have hR := PR_sav (B' := 130000) (f' := fLod (fnL li_L24) 1) (by decide) hR (okf_mono (by decide) (okf_lod hR.1 (by decide) (by decide +kernel)))
  rw [li_e28] at hX hR
  replace hX : XS G q366 (fnL li_L25) (fnL L0) (rgS ff12 0 (fnL li_L24)) 1 6 0 (fnL T0) (nI 0) WC := hX
  replace hR : PR 130000 (fnL li_L25) (fnL L0) (rgS ff12 0 (fnL li_L24)) 1 6 0 (fnL T0) (nI 0) := hR
  obtain ⟨ff13, hff13⟩ : ∃ F, F = rgS ff12 0 (fnL li_L24) := ⟨_, rfl⟩
  rw [← hff13] at hX hR
  refine tI (y := nI 2) (by decide +kernel) ?_
  refine lv_iload_n hx hb dL_limits_450 rfl (lv_at hl 0 rfl) ?_
  refine lv_iconst (v := nI 1) hx hb dL_limits_451 (by decide +kernel) ?_
  refine lv_iadd hx hb dL_limits_452 ?_
  refine tI (y := nI 2) (by decide +kernel) ?_
  refine lv_icmp_eq (tgt := 458) hx hb dL_limits_453 (by decide) (fun _ => ?_) (fun h => absurd h (by decide +kernel))
  refine lv_iinc (v := nI 2) (lv' := [(2, .int (nI 2)), (1, .ref q366)]) hx hb dL_limits_458 hl (k := 0) rfl (by decide +kernel) (by decide) rfl (fun ls hl => ?_)
  refine lv_goto (tgt := 440) hx hb dL_limits_461 (by decide) ?_
  refine lv_iload_n hx hb dL_limits_440 rfl (lv_at hl 0 rfl) ?_
  refine lv_iconst (v := nI 4) hx hb dL_limits_441 (by decide +kernel) ?_
  refine lv_icmp_ge (tgt := 464) hx hb dL_limits_442 (by decide) (fun h => absurd h (by decide +kernel)) (fun _ => ?_)
  refine lv_aload_n hx hb dL_limits_445 rfl (lv_at hl 1 rfl) ?_
  refine lv_iconst (v := nI 1) hx hb dL_limits_446 (by decide +kernel) ?_
  refine cx0 (st1 := [.int ((fnL li_L25) (fAt (fnL li_L25) + 1))]) (va_runV (As := [.int (nI 1)]) (rest := []) ⟨hx, hb, hml, hown, hts⟩ (CX_load_ok l G hX hR (by decide) 1 (by decide +kernel) (by decide +kernel)) (cwV 1 hts gL_limits_X5_load rfl rfl rfl (by decide +kernel) ⟨Nat.le_of_ble_eq_true rfl, Nat.le_of_ble_eq_true rfl⟩) (PJ.preV hE hJ.jx (xs_recv hE.1 hX (P_pre hP)) ⟨P_pre hP, D_tr (D_pre hD)⟩) rfl rfl hl.1 rfl (lv_room (Nat.le_of_ble_eq_true rfl)) dL_limits_447 ⟨Nat.le_of_ble_eq_true rfl, Nat.le_of_ble_eq_true rfl⟩) hP hD hS hJ0 hAl rfl (fun WC H locs hX hP hD hS hJ => ?_)
  have hR := PR_sav (B' := 140000) (f' := fLod (fnL li_L25) 1) (by decide) hR (okf_mono (by decide) (okf_lod hR.1 (by decide) (by decide +kernel)))
  rw [li_e29] at hX hR
  replace hX : XS G q366 (fnL li_L26) (fnL L0) (rgS ff13 1 (fnL li_L25)) 2 6 0 (fnL T0) (nI 0) WC := hX
  replace hR : PR 140000 (fnL li_L26) (fnL L0) (rgS ff13 1 (fnL li_L25)) 2 6 0 (fnL T0) (nI 0) := hR
  obtain ⟨ff14, hff14⟩ : ∃ F, F = rgS ff13 1 (fnL li_L25) := ⟨_, rfl⟩
  rw [← hff14] at hX hR
  refine tI (y := nI 3) (by decide +kernel) ?_
  refine lv_iload_n hx hb dL_limits_450 rfl (lv_at hl 0 rfl) ?_
  refine lv_iconst (v := nI 1) hx hb dL_limits_451 (by decide +kernel) ?_
  refine lv_iadd hx hb dL_limits_452 ?_
  refine tI (y := nI 3) (by decide +kernel) ?_
  refine lv_icmp_eq (tgt := 458) hx hb dL_limits_453 (by decide) (fun _ => ?_) (fun h => absurd h (by decide +kernel))
  refine lv_iinc (v := nI 3) (lv' := [(2, .int (nI 3)), (1, .ref q366)]) hx hb dL_limits_458 hl (k := 0) rfl (by decide +kernel) (by decide) rfl (fun ls hl => ?_)
  refine lv_goto (tgt := 440) hx hb dL_limits_461 (by decide) ?_
  refine lv_iload_n hx hb dL_limits_440 rfl (lv_at hl 0 rfl) ?_
  refine lv_iconst (v := nI 4) hx hb dL_limits_441 (by decide +kernel) ?_
  refine lv_icmp_ge (tgt := 464) hx hb dL_limits_442 (by decide) (fun h => absurd h (by decide +kernel)) (fun _ => ?_)
  refine lv_aload_n hx hb dL_limits_445 rfl (lv_at hl 1 rfl) ?_
  refine lv_iconst (v := nI 1) hx hb dL_limits_446 (by decide +kernel) ?_
  refine cx0 (st1 := [.int ((fnL li_L26) (fAt (fnL li_L26) + 1))]) (va_runV (As := [.int (nI 1)]) (rest := []) ⟨hx, hb, hml, hown, hts⟩ (CX_load_ok l G hX hR (by decide) 1 (by decide +kernel) (by decide +kernel)) (cwV 1 hts gL_limits_X5_load rfl rfl rfl (by decide +kernel) ⟨Nat.le_of_ble_eq_true rfl, Nat.le_of_ble_eq_true rfl⟩) (PJ.preV hE hJ.jx (xs_recv hE.1 hX (P_pre hP)) ⟨P_pre hP, D_tr (D_pre hD)⟩) rfl rfl hl.1 rfl (lv_room (Nat.le_of_ble_eq_true rfl)) dL_limits_447 ⟨Nat.le_of_ble_eq_true rfl, Nat.le_of_ble_eq_true rfl⟩) hP hD hS hJ0 hAl rfl (fun WC H locs hX hP hD hS hJ => ?_)
  have hR := PR_sav (B' := 150000) (f' := fLod (fnL li_L26) 1) (by decide) hR (okf_mono (by decide) (okf_lod hR.1 (by decide) (by decide +kernel)))
  rw [li_e30] at hX hR
  replace hX : XS G q366 (fnL li_L27) (fnL L0) (rgS ff14 2 (fnL li_L26)) 3 6 0 (fnL T0) (nI 0) WC := hX
  replace hR : PR 150000 (fnL li_L27) (fnL L0) (rgS ff14 2 (fnL li_L26)) 3 6 0 (fnL T0) (nI 0) := hR
  obtain ⟨ff15, hff15⟩ : ∃ F, F = rgS ff14 2 (fnL li_L26) := ⟨_, rfl⟩
  rw [← hff15] at hX hR
  refine tI (y := nI 4) (by decide +kernel) ?_
  refine lv_iload_n hx hb dL_limits_450 rfl (lv_at hl 0 rfl) ?_
  refine lv_iconst (v := nI 1) hx hb dL_limits_451 (by decide +kernel) ?_
  refine lv_iadd hx hb dL_limits_452 ?_
  refine tI (y := nI 4) (by decide +kernel) ?_
  refine lv_icmp_eq (tgt := 458) hx hb dL_limits_453 (by decide) (fun _ => ?_) (fun h => absurd h (by decide +kernel))
  refine lv_iinc (v := nI 4) (lv' := [(2, .int (nI 4)), (1, .ref q366)]) hx hb dL_limits_458 hl (k := 0) rfl (by decide +kernel) (by decide) rfl (fun ls hl => ?_)
  refine lv_goto (tgt := 440) hx hb dL_limits_461 (by decide) ?_
  refine lv_iload_n hx hb dL_limits_440 rfl (lv_at hl 0 rfl) ?_
  refine lv_iconst (v := nI 4) hx hb dL_limits_441 (by decide +kernel) ?_
  refine lv_icmp_ge (tgt := 464) hx hb dL_limits_442 (by decide) (fun _ => ?_) (fun h => absurd h (by decide +kernel))
  refine lv_aload_n hx hb dL_limits_464 rfl (lv_at hl 1 rfl) ?_
  refine lv_iconst (v := nI 1) hx hb dL_limits_465 (by decide +kernel) ?_
  refine lv_iconst (v := nI 1) hx hb dL_limits_466 (by decide +kernel) ?_
  refine lv_iconst (v := nI 0) hx hb dL_limits_467 (by decide +kernel) ?_
  refine cxc (st1 := [.int (-13)]) (vx_runSW (As := [.ref q366, .int (nI 1), .int (nI 1), .int (nI 0)]) (rest := []) ⟨hx, hb, hml, hown, hts⟩ (CC_load_e2 l hlt G hX hR (by decide) 1 (by decide +kernel) (by decide +kernel) (nI 0)) (vx_cwSW 4 hts gL_limits_L_call rfl rfl rfl (by decide +kernel) ⟨Nat.le_of_ble_eq_true rfl, Nat.le_of_ble_eq_true rfl⟩) (PK.preS hE hJ ⟨P_pre hP, D_al hAl (D_pre hD)⟩) rfl rfl hl.1 rfl (lv_room (Nat.le_of_ble_eq_true rfl)) dL_limits_468 ⟨Nat.le_of_ble_eq_true rfl, Nat.le_of_ble_eq_true rfl⟩) hP hD hS hJ0 hAl rfl (fun WC H locs hX hP hD hS hJ => ?_)
  refine lv_bipush (v := -13) hx hb dL_limits_471 (by decide +kernel) ?_
  refine lv_icmp_ne (tgt := 601) hx hb dL_limits_473 (by decide) (fun h => absurd h (by decide +kernel)) (fun _ => ?_)
  refine lv_aload_n hx hb dL_limits_476 rfl (lv_at hl 1 rfl) ?_
  refine lv_iconst (v := nI 1) hx hb dL_limits_477 (by decide +kernel) ?_
  refine cx0 (st1 := [.int (fWl (fnL li_L27) 1)]) (va_runV (As := [.int (nI 1)]) (rest := []) ⟨hx, hb, hml, hown, hts⟩ (CX_ifLoaded_ok l G hX hR (by decide) 1 (by decide +kernel)) (cwV 1 hts gL_limits_X5_ifLoaded rfl rfl rfl (by decide +kernel) ⟨Nat.le_of_ble_eq_true rfl, Nat.le_of_ble_eq_true rfl⟩) (PJ.preV hE hJ.jx (xs_recv hE.1 hX (P_pre hP)) ⟨P_pre hP, D_tr (D_pre hD)⟩) rfl rfl hl.1 rfl (lv_room (Nat.le_of_ble_eq_true rfl)) dL_limits_478 ⟨Nat.le_of_ble_eq_true rfl, Nat.le_of_ble_eq_true rfl⟩) hP hD hS hJ0 hAl rfl (fun WC H locs hX hP hD hS hJ => ?_)
  refine tI (y := (-1)) (by decide +kernel) ?_
  refine lv_iconst (v := -1) hx hb dL_limits_481 (by decide +kernel) ?_
  refine lv_icmp_ne (tgt := 601) hx hb dL_limits_482 (by decide) (fun h => absurd h (by decide +kernel)) (fun _ => ?_)
  refine lv_aload_n hx hb dL_limits_485 rfl (lv_at hl 1 rfl) ?_
  refine lv_iconst (v := nI 4) hx hb dL_limits_486 (by decide +kernel) ?_
  refine cx0 (st1 := [.int (fLs (fnL li_L27) 4)]) (va_runV (As := [.int (nI 4)]) (rest := []) ⟨hx, hb, hml, hown, hts⟩ (CX_leastList_ok l G hX hR (by decide) 4 (by decide +kernel)) (cwV 1 hts gL_limits_X5_leastList rfl rfl rfl (by decide +kernel) ⟨Nat.le_of_ble_eq_true rfl, Nat.le_of_ble_eq_true rfl⟩) (PJ.preV hE hJ.jx (xs_recv hE.1 hX (P_pre hP)) ⟨P_pre hP, D_tr (D_pre hD)⟩) rfl rfl hl.1 rfl (lv_room (Nat.le_of_ble_eq_true rfl)) dL_limits_487 ⟨Nat.le_of_ble_eq_true rfl, Nat.le_of_ble_eq_true rfl⟩) hP hD hS hJ0 hAl rfl (fun WC H locs hX hP hD hS hJ => ?_)
  refine tI (y := nI 16) (by decide +kernel) ?_
  refine lv_bipush (v := nI 16) hx hb dL_limits_490 (by decide +kernel) ?_
  refine lv_icmp_ne (tgt := 601) hx hb dL_limits_492 (by decide) (fun h => absurd h (by decide +kernel)) (fun _ => ?_)
  refine lv_aload_n hx hb dL_limits_495 rfl (lv_at hl 1 rfl) ?_
  refine lv_iconst (v := nI 5) hx hb dL_limits_496 (by decide +kernel) ?_
  refine cx0 (st1 := [.int (fLs (fnL li_L27) 5)]) (va_runV (As := [.int (nI 5)]) (rest := []) ⟨hx, hb, hml, hown, hts⟩ (CX_leastList_ok l G hX hR (by decide) 5 (by decide +kernel)) (cwV 1 hts gL_limits_X5_leastList rfl rfl rfl (by decide +kernel) ⟨Nat.le_of_ble_eq_true rfl, Nat.le_of_ble_eq_true rfl⟩) (PJ.preV hE hJ.jx (xs_recv hE.1 hX (P_pre hP)) ⟨P_pre hP, D_tr (D_pre hD)⟩) rfl rfl hl.1 rfl (lv_room (Nat.le_of_ble_eq_true rfl)) dL_limits_497 ⟨Nat.le_of_ble_eq_true rfl, Nat.le_of_ble_eq_true rfl⟩) hP hD hS hJ0 hAl rfl (fun WC H locs hX hP hD hS hJ => ?_)
  refine tI (y := (-1)) (by decide +kernel) ?_
  refine lv_iconst (v := -1) hx hb dL_limits_500 (by decide +kernel) ?_
  refine lv_icmp_ne (tgt := 601) hx hb dL_limits_501 (by decide) (fun h => absurd h (by decide +kernel)) (fun _ => ?_)
  refine lv_aload_n hx hb dL_limits_504 rfl (lv_at hl 1 rfl) ?_
  refine lv_iconst (v := nI 0) hx hb dL_limits_505 (by decide +kernel) ?_
  refine cx0 (st1 := [.int ((fnL li_L27) (fAt (fnL li_L27) + 1))]) (va_runV (As := [.int (nI 0)]) (rest := []) ⟨hx, hb, hml, hown, hts⟩ (CX_load_ok l G hX hR (by decide) 0 (by decide +kernel) (by decide +kernel)) (cwV 1 hts gL_limits_X5_load rfl rfl rfl (by decide +kernel) ⟨Nat.le_of_ble_eq_true rfl, Nat.le_of_ble_eq_true rfl⟩) (PJ.preV hE hJ.jx (xs_recv hE.1 hX (P_pre hP)) ⟨P_pre hP, D_tr (D_pre hD)⟩) rfl rfl hl.1 rfl (lv_room (Nat.le_of_ble_eq_true rfl)) dL_limits_506 ⟨Nat.le_of_ble_eq_true rfl, Nat.le_of_ble_eq_true rfl⟩) hP hD hS hJ0 hAl rfl (fun WC H locs hX hP hD hS hJ => ?_)
  have hR := PR_sav (B' := 160000) (f' := fLod (fnL li_L27) 0) (by decide) hR (okf_mono (by decide) (okf_lod hR.1 (by decide) (by decide +kernel)))
  rw [li_e31] at hX hR
  replace hX : XS G q366 (fnL li_L28) (fnL L0) (rgS ff15 3 (fnL li_L27)) 4 6 0 (fnL T0) (nI 0) WC := hX
  replace hR : PR 160000 (fnL li_L28) (fnL L0) (rgS ff15 3 (fnL li_L27)) 4 6 0 (fnL T0) (nI 0) := hR
  obtain ⟨ff16, hff16⟩ : ∃ F, F = rgS ff15 3 (fnL li_L27) := ⟨_, rfl⟩
  rw [← hff16] at hX hR
  refine tI (y := nI 5) (by decide +kernel) ?_
  refine lv_iconst (v := nI 5) hx hb dL_limits_509 (by decide +kernel) ?_
  refine lv_icmp_ne (tgt := 601) hx hb dL_limits_510 (by decide) (fun h => absurd h (by decide +kernel)) (fun _ => ?_)
  refine lv_aload_n hx hb dL_limits_513 rfl (lv_at hl 1 rfl) ?_
  refine lv_iconst (v := nI 3) hx hb dL_limits_514 (by decide +kernel) ?_
  refine cx0 (st1 := [.int (fLs (fnL li_L28) 3)]) (va_runV (As := [.int (nI 3)]) (rest := []) ⟨hx, hb, hml, hown, hts⟩ (CX_leastList_ok l G hX hR (by decide) 3 (by decide +kernel)) (cwV 1 hts gL_limits_X5_leastList rfl rfl rfl (by decide +kernel) ⟨Nat.le_of_ble_eq_true rfl, Nat.le_of_ble_eq_true rfl⟩) (PJ.preV hE hJ.jx (xs_recv hE.1 hX (P_pre hP)) ⟨P_pre hP, D_tr (D_pre hD)⟩) rfl rfl hl.1 rfl (lv_room (Nat.le_of_ble_eq_true rfl)) dL_limits_515 ⟨Nat.le_of_ble_eq_true rfl, Nat.le_of_ble_eq_true rfl⟩) hP hD hS hJ0 hAl rfl (fun WC H locs hX hP hD hS hJ => ?_)
  refine tI (y := nI 16) (by decide +kernel) ?_
  refine lv_bipush (v := nI 16) hx hb dL_limits_518 (by decide +kernel) ?_
  refine lv_icmp_ne (tgt := 601) hx hb dL_limits_520 (by decide) (fun h => absurd h (by decide +kernel)) (fun _ => ?_)
  refine lv_aload_n hx hb dL_limits_523 rfl (lv_at hl 1 rfl) ?_
  refine lv_iconst (v := nI 4) hx hb dL_limits_524 (by decide +kernel) ?_
  refine cx0 (st1 := [.int (fLs (fnL li_L28) 4)]) (va_runV (As := [.int (nI 4)]) (rest := []) ⟨hx, hb, hml, hown, hts⟩ (CX_leastList_ok l G hX hR (by decide) 4 (by decide +kernel)) (cwV 1 hts gL_limits_X5_leastList rfl rfl rfl (by decide +kernel) ⟨Nat.le_of_ble_eq_true rfl, Nat.le_of_ble_eq_true rfl⟩) (PJ.preV hE hJ.jx (xs_recv hE.1 hX (P_pre hP)) ⟨P_pre hP, D_tr (D_pre hD)⟩) rfl rfl hl.1 rfl (lv_room (Nat.le_of_ble_eq_true rfl)) dL_limits_525 ⟨Nat.le_of_ble_eq_true rfl, Nat.le_of_ble_eq_true rfl⟩) hP hD hS hJ0 hAl rfl (fun WC H locs hX hP hD hS hJ => ?_)
  refine tI (y := (-1)) (by decide +kernel) ?_
  refine lv_iconst (v := -1) hx hb dL_limits_528 (by decide +kernel) ?_
  refine lv_icmp_ne (tgt := 601) hx hb dL_limits_529 (by decide) (fun h => absurd h (by decide +kernel)) (fun _ => ?_)
  refine lv_aload_n hx hb dL_limits_532 rfl (lv_at hl 1 rfl) ?_
  refine lv_iconst (v := nI 1) hx hb dL_limits_533 (by decide +kernel) ?_
  refine lv_iconst (v := nI 4) hx hb dL_limits_534 (by decide +kernel) ?_
  refine cx0 (st1 := [.int ((fnL li_L28) (((57 + (11 * 1)) + 1) + 4))]) (va_runV (As := [.int (nI 1), .int (nI 4)]) (rest := []) ⟨hx, hb, hml, hown, hts⟩ (CX_waiting_in l G hX hR (by decide) 1 4 (by decide +kernel) (by decide +kernel) (by decide +kernel)) (cwV 2 hts gL_limits_X5_waiting rfl rfl rfl (by decide +kernel) ⟨Nat.le_of_ble_eq_true rfl, Nat.le_of_ble_eq_true rfl⟩) (PJ.preV hE hJ.jx (xs_recv hE.1 hX (P_pre hP)) ⟨P_pre hP, D_tr (D_pre hD)⟩) rfl rfl hl.1 rfl (lv_room (Nat.le_of_ble_eq_true rfl)) dL_limits_535 ⟨Nat.le_of_ble_eq_true rfl, Nat.le_of_ble_eq_true rfl⟩) hP hD hS hJ0 hAl rfl (fun WC H locs hX hP hD hS hJ => ?_)
  refine tI (y := nI 10) (by decide +kernel) ?_
  refine lv_bipush (v := nI 10) hx hb dL_limits_538 (by decide +kernel) ?_
  refine lv_icmp_ne (tgt := 601) hx hb dL_limits_540 (by decide) (fun h => absurd h (by decide +kernel)) (fun _ => ?_)
  refine lv_aload_n hx hb dL_limits_543 rfl (lv_at hl 1 rfl) ?_
  refine lv_iconst (v := nI 1) hx hb dL_limits_544 (by decide +kernel) ?_
  refine lv_iconst (v := nI 5) hx hb dL_limits_545 (by decide +kernel) ?_
  refine cx0 (st1 := [.int ((-1))]) (va_runV (As := [.int (nI 1), .int (nI 5)]) (rest := []) ⟨hx, hb, hml, hown, hts⟩ (CX_waiting_out l G hX hR (by decide) 1 5 (by decide +kernel) (by decide +kernel) (by decide +kernel)) (cwV 2 hts gL_limits_X5_waiting rfl rfl rfl (by decide +kernel) ⟨Nat.le_of_ble_eq_true rfl, Nat.le_of_ble_eq_true rfl⟩) (PJ.preV hE hJ.jx (xs_recv hE.1 hX (P_pre hP)) ⟨P_pre hP, D_tr (D_pre hD)⟩) rfl rfl hl.1 rfl (lv_room (Nat.le_of_ble_eq_true rfl)) dL_limits_546 ⟨Nat.le_of_ble_eq_true rfl, Nat.le_of_ble_eq_true rfl⟩) hP hD hS hJ0 hAl rfl (fun WC H locs hX hP hD hS hJ => ?_)
  refine tI (y := (-1)) (by decide +kernel) ?_
  refine lv_iconst (v := -1) hx hb dL_limits_549 (by decide +kernel) ?_
  refine lv_icmp_ne (tgt := 601) hx hb dL_limits_550 (by decide) (fun h => absurd h (by decide +kernel)) (fun _ => ?_)
  refine lv_aload_n hx hb dL_limits_553 rfl (lv_at hl 1 rfl) ?_
  refine lv_iconst (v := nI 1) hx hb dL_limits_554 (by decide +kernel) ?_
  refine lv_iconst (v := nI 3) hx hb dL_limits_555 (by decide +kernel) ?_
  refine lv_iconst (v := nI 0) hx hb dL_limits_556 (by decide +kernel) ?_
  refine cx0 (st1 := [.int ((fnL li_L28) ((((79 + (9 * 1)) + 1) + (2 * 3)) + 0))]) (va_runV (As := [.int (nI 1), .int (nI 3), .int (nI 0)]) (rest := []) ⟨hx, hb, hml, hown, hts⟩ (CX_deck_in l G hX hR (by decide) 1 3 (by decide +kernel) (by decide +kernel) 0 (by decide +kernel) (by decide +kernel)) (cwV 3 hts gL_limits_X5_deck rfl rfl rfl (by decide +kernel) ⟨Nat.le_of_ble_eq_true rfl, Nat.le_of_ble_eq_true rfl⟩) (PJ.preV hE hJ.jx (xs_recv hE.1 hX (P_pre hP)) ⟨P_pre hP, D_tr (D_pre hD)⟩) rfl rfl hl.1 rfl (lv_room (Nat.le_of_ble_eq_true rfl)) dL_limits_557 ⟨Nat.le_of_ble_eq_true rfl, Nat.le_of_ble_eq_true rfl⟩) hP hD hS hJ0 hAl rfl (fun WC H locs hX hP hD hS hJ => ?_)
  refine tI (y := nI 4) (by decide +kernel) ?_
  refine lv_iconst (v := nI 4) hx hb dL_limits_560 (by decide +kernel) ?_
  refine lv_icmp_ne (tgt := 601) hx hb dL_limits_561 (by decide) (fun h => absurd h (by decide +kernel)) (fun _ => ?_)
  exact li_s3 hlt hL9 hX hR hP hD hS hl
set_option maxHeartbeats 8000000 in
set_option maxRecDepth 100000 in
theorem li_s1 {p : Program} {l : Launch} {e : Env} {s : State} {m : MethodId} {below : List Frame} {meth : Method} {c : Code} {G : eG} {lo : Nat} (hlt : l.stackTraces = false) (hL : LC cL_limits 3 wsL_limits p s m meth c ([] : List Value).toArray G lo) {q0 : Nat} {ff12 : Nat → Nat → Int32} {WC : va_W} {H : Heap} {locs : List Loc} {ls : Array Slot} (hX : XS G q0 (fnL li_L7) (fnL li_L3) ff12 0 6 0 (fnL T0) (nI 1) WC) (hR : PR 120000 (fnL li_L7) (fnL li_L3) ff12 0 6 0 (fnL T0) (nI 1)) (hP : va_P G.1 vwCl (WC ++ []) H) (hD : va_D (AA s) (WC ++ [])) (hS : va_S (AA s) s.heap H locs) (hl : lv_has ls 3 [(1, .int (nI 4)), (0, .ref q0)]) : W p l e ({ frames := 10, cells := 368, slots := 2936, locals := 193 }) s m ([] : List Value).toArray below meth c H locs 158 1312 (MQ below (MV (some (.int (nI 1))) (fun _ => True) (AA s)) ([] : List Value).toArray s 368 2936 (AA s)) (F0 m 187 ls []) := by
  have hL9 := hL
  obtain ⟨hx, hb, hml, hown, hts, hE, hJ0, hF0, hr, hlocks⟩ := hL
  have hAl : ∀ q, AA s q → lo ≤ q := fun q h => Nat.le_trans hJ0.1 h
  have hA : ∀ q : Nat, s.heap.size ≤ q → AA s q := fun _ h => h
  have hJ : JB lo s _ := hJ0.S hAl hS
  refine lv_iinc (v := nI 5) (lv' := [(1, .int (nI 5)), (0, .ref q0)]) hx hb dL_limits_187 hl (k := 0) rfl (by decide +kernel) (by decide) rfl (fun ls hl => ?_)
  refine lv_goto (tgt := 170) hx hb dL_limits_190 (by decide) ?_
  refine lv_iload_n hx hb dL_limits_170 rfl (lv_at hl 0 rfl) ?_
  refine lv_iconst (v := nI 5) hx hb dL_limits_171 (by decide +kernel) ?_
  refine lv_icmp_ge (tgt := 193) hx hb dL_limits_172 (by decide) (fun _ => ?_) (fun h => absurd h (by decide +kernel))
  refine lv_aload_n hx hb dL_limits_193 rfl (lv_at hl 1 rfl) ?_
  refine lv_iconst (v := nI 5) hx hb dL_limits_194 (by decide +kernel) ?_
  refine lv_bipush (v := nI 10) hx hb dL_limits_195 (by decide +kernel) ?_
  refine cx0 (st1 := [.int ((fnL li_L7) (3 + 5))]) (va_runV (As := [.int (nI 5), .int (nI 10)]) (rest := []) ⟨hx, hb, hml, hown, hts⟩ (CX_current_ok l G hX hR (by decide) 5 10 (by decide +kernel) (by decide +kernel)) (cwV 2 hts gL_limits_X5_current rfl rfl rfl (by decide +kernel) ⟨Nat.le_of_ble_eq_true rfl, Nat.le_of_ble_eq_true rfl⟩) (PJ.preV hE hJ.jx (xs_recv hE.1 hX (P_pre hP)) ⟨P_pre hP, D_tr (D_pre hD)⟩) rfl rfl hl.1 rfl (lv_room (Nat.le_of_ble_eq_true rfl)) dL_limits_197 ⟨Nat.le_of_ble_eq_true rfl, Nat.le_of_ble_eq_true rfl⟩) hP hD hS hJ0 hAl rfl (fun WC H locs hX hP hD hS hJ => ?_)
  have hR := PR_sav (B' := 130000) (f' := upd (fnL li_L7) (3 + 5) (nI 10)) (by decide) hR (okf_mono (by decide) (okf_cur hR.1 (by decide) (by decide)))
  rw [li_e11] at hX hR
  replace hX : XS G q0 (fnL li_L8) (fnL li_L3) (rgS ff12 0 (fnL li_L7)) 1 6 0 (fnL T0) (nI 1) WC := hX
  replace hR : PR 130000 (fnL li_L8) (fnL li_L3) (rgS ff12 0 (fnL li_L7)) 1 6 0 (fnL T0) (nI 1) := hR
  obtain ⟨ff13, hff13⟩ : ∃ F, F = rgS ff12 0 (fnL li_L7) := ⟨_, rfl⟩
  rw [← hff13] at hX hR
  refine tI (y := nI 0) (by decide +kernel) ?_
  refine lv_if_ne (tgt := 364) hx hb dL_limits_200 (by decide) (fun h => absurd h (by decide +kernel)) (fun _ => ?_)
  refine lv_aload_n hx hb dL_limits_203 rfl (lv_at hl 1 rfl) ?_
  refine cx0 (st1 := [.int (nI (nCr 100 (fnL li_L8)))]) (va_runV (As := []) (rest := []) ⟨hx, hb, hml, hown, hts⟩ (CX_lasts_ok l G hX hR (by decide) ) (cwV 0 hts gL_limits_X5_lasts rfl rfl rfl (by decide +kernel) ⟨Nat.le_of_ble_eq_true rfl, Nat.le_of_ble_eq_true rfl⟩) (PJ.preV hE hJ.jx (xs_recv hE.1 hX (P_pre hP)) ⟨P_pre hP, D_tr (D_pre hD)⟩) rfl rfl hl.1 rfl (lv_room (Nat.le_of_ble_eq_true rfl)) dL_limits_204 ⟨Nat.le_of_ble_eq_true rfl, Nat.le_of_ble_eq_true rfl⟩) hP hD hS hJ0 hAl rfl (fun WC H locs hX hP hD hS hJ => ?_)
  refine tI (y := nI 4) (by decide +kernel) ?_
  refine lv_iconst (v := nI 4) hx hb dL_limits_207 (by decide +kernel) ?_
  refine lv_icmp_ne (tgt := 364) hx hb dL_limits_208 (by decide) (fun h => absurd h (by decide +kernel)) (fun _ => ?_)
  refine lv_aload_n hx hb dL_limits_211 rfl (lv_at hl 1 rfl) ?_
  refine cx0 (st1 := [.int (nI (fHrs (fnL li_L8)))]) (va_runV (As := []) (rest := []) ⟨hx, hb, hml, hown, hts⟩ (CX_cross_ok l G hX hR (by decide) (okf_cro hR.1).1 (by decide +kernel)) (cwV 0 hts gL_limits_X5_cross rfl rfl rfl (by decide +kernel) ⟨Nat.le_of_ble_eq_true rfl, Nat.le_of_ble_eq_true rfl⟩) (PJ.preV hE hJ.jx (xs_recv hE.1 hX (P_pre hP)) ⟨P_pre hP, D_tr (D_pre hD)⟩) rfl rfl hl.1 rfl (lv_room (Nat.le_of_ble_eq_true rfl)) dL_limits_212 ⟨Nat.le_of_ble_eq_true rfl, Nat.le_of_ble_eq_true rfl⟩) hP hD hS hJ0 hAl rfl (fun WC H locs hX hP hD hS hJ => ?_)
  have hR := PR_sav (B' := 140000) (f' := fCrs (fnL li_L8)) (by decide) hR (okf_mono (by decide) (okf_crs (by decide) hR.1))
  rw [li_e12] at hX hR
  replace hX : XS G q0 (fnL li_L9) (fnL li_L3) (rgS ff13 1 (fnL li_L8)) 2 6 0 (fnL T0) (nI 1) WC := hX
  replace hR : PR 140000 (fnL li_L9) (fnL li_L3) (rgS ff13 1 (fnL li_L8)) 2 6 0 (fnL T0) (nI 1) := hR
  obtain ⟨ff14, hff14⟩ : ∃ F, F = rgS ff13 1 (fnL li_L8) := ⟨_, rfl⟩
  rw [← hff14] at hX hR
  refine tI (y := nI 1) (by decide +kernel) ?_
  refine lv_iconst (v := nI 1) hx hb dL_limits_215 (by decide +kernel) ?_
  refine lv_icmp_ne (tgt := 364) hx hb dL_limits_216 (by decide) (fun h => absurd h (by decide +kernel)) (fun _ => ?_)
  refine lv_aload_n hx hb dL_limits_219 rfl (lv_at hl 1 rfl) ?_
  refine lv_bipush (v := nI 9) hx hb dL_limits_220 (by decide +kernel) ?_
  refine lv_iconst (v := nI 1) hx hb dL_limits_222 (by decide +kernel) ?_
  refine cx0 (st1 := [.int (fOf (fnL li_L9) 9 1)]) (va_runV (As := [.int (nI 9), .int (nI 1)]) (rest := []) ⟨hx, hb, hml, hown, hts⟩ (CX_section_ok l G hX hR (by decide) 9 1 (by decide +kernel) (by decide +kernel)) (cwV 2 hts gL_limits_X5_section rfl rfl rfl (by decide +kernel) ⟨Nat.le_of_ble_eq_true rfl, Nat.le_of_ble_eq_true rfl⟩) (PJ.preV hE hJ.jx (xs_recv hE.1 hX (P_pre hP)) ⟨P_pre hP, D_tr (D_pre hD)⟩) rfl rfl hl.1 rfl (lv_room (Nat.le_of_ble_eq_true rfl)) dL_limits_223 ⟨Nat.le_of_ble_eq_true rfl, Nat.le_of_ble_eq_true rfl⟩) hP hD hS hJ0 hAl rfl (fun WC H locs hX hP hD hS hJ => ?_)
  refine tI (y := nI 40) (by decide +kernel) ?_
  refine lv_bipush (v := nI 40) hx hb dL_limits_226 (by decide +kernel) ?_
  refine lv_icmp_ne (tgt := 364) hx hb dL_limits_228 (by decide) (fun h => absurd h (by decide +kernel)) (fun _ => ?_)
  refine lv_aload_n hx hb dL_limits_231 rfl (lv_at hl 1 rfl) ?_
  refine lv_bipush (v := nI 9) hx hb dL_limits_232 (by decide +kernel) ?_
  refine lv_iconst (v := nI 0) hx hb dL_limits_234 (by decide +kernel) ?_
  refine cx0 (st1 := [.int (fOf (fnL li_L9) 9 0)]) (va_runV (As := [.int (nI 9), .int (nI 0)]) (rest := []) ⟨hx, hb, hml, hown, hts⟩ (CX_section_ok l G hX hR (by decide) 9 0 (by decide +kernel) (by decide +kernel)) (cwV 2 hts gL_limits_X5_section rfl rfl rfl (by decide +kernel) ⟨Nat.le_of_ble_eq_true rfl, Nat.le_of_ble_eq_true rfl⟩) (PJ.preV hE hJ.jx (xs_recv hE.1 hX (P_pre hP)) ⟨P_pre hP, D_tr (D_pre hD)⟩) rfl rfl hl.1 rfl (lv_room (Nat.le_of_ble_eq_true rfl)) dL_limits_235 ⟨Nat.le_of_ble_eq_true rfl, Nat.le_of_ble_eq_true rfl⟩) hP hD hS hJ0 hAl rfl (fun WC H locs hX hP hD hS hJ => ?_)
  refine tI (y := nI 20) (by decide +kernel) ?_
  refine lv_bipush (v := nI 20) hx hb dL_limits_238 (by decide +kernel) ?_
  refine lv_icmp_ne (tgt := 364) hx hb dL_limits_240 (by decide) (fun h => absurd h (by decide +kernel)) (fun _ => ?_)
  refine lv_aload_n hx hb dL_limits_243 rfl (lv_at hl 1 rfl) ?_
  refine cx0 (st1 := [.int (nI (fHrs (fnL li_L9)))]) (va_runV (As := []) (rest := []) ⟨hx, hb, hml, hown, hts⟩ (CX_cross_ok l G hX hR (by decide) (okf_cro hR.1).1 (by decide +kernel)) (cwV 0 hts gL_limits_X5_cross rfl rfl rfl (by decide +kernel) ⟨Nat.le_of_ble_eq_true rfl, Nat.le_of_ble_eq_true rfl⟩) (PJ.preV hE hJ.jx (xs_recv hE.1 hX (P_pre hP)) ⟨P_pre hP, D_tr (D_pre hD)⟩) rfl rfl hl.1 rfl (lv_room (Nat.le_of_ble_eq_true rfl)) dL_limits_244 ⟨Nat.le_of_ble_eq_true rfl, Nat.le_of_ble_eq_true rfl⟩) hP hD hS hJ0 hAl rfl (fun WC H locs hX hP hD hS hJ => ?_)
  have hR := PR_sav (B' := 150000) (f' := fCrs (fnL li_L9)) (by decide) hR (okf_mono (by decide) (okf_crs (by decide) hR.1))
  rw [li_e13] at hX hR
  replace hX : XS G q0 (fnL li_L10) (fnL li_L3) (rgS ff14 2 (fnL li_L9)) 3 6 0 (fnL T0) (nI 1) WC := hX
  replace hR : PR 150000 (fnL li_L10) (fnL li_L3) (rgS ff14 2 (fnL li_L9)) 3 6 0 (fnL T0) (nI 1) := hR
  obtain ⟨ff15, hff15⟩ : ∃ F, F = rgS ff14 2 (fnL li_L9) := ⟨_, rfl⟩
  rw [← hff15] at hX hR
  refine tI (y := nI 1) (by decide +kernel) ?_
  refine lv_iconst (v := nI 1) hx hb dL_limits_247 (by decide +kernel) ?_
  refine lv_icmp_ne (tgt := 364) hx hb dL_limits_248 (by decide) (fun h => absurd h (by decide +kernel)) (fun _ => ?_)
  refine lv_aload_n hx hb dL_limits_251 rfl (lv_at hl 1 rfl) ?_
  refine cx0 (st1 := [.int (nI (fHrs (fnL li_L10)))]) (va_runV (As := []) (rest := []) ⟨hx, hb, hml, hown, hts⟩ (CX_cross_ok l G hX hR (by decide) (okf_cro hR.1).1 (by decide +kernel)) (cwV 0 hts gL_limits_X5_cross rfl rfl rfl (by decide +kernel) ⟨Nat.le_of_ble_eq_true rfl, Nat.le_of_ble_eq_true rfl⟩) (PJ.preV hE hJ.jx (xs_recv hE.1 hX (P_pre hP)) ⟨P_pre hP, D_tr (D_pre hD)⟩) rfl rfl hl.1 rfl (lv_room (Nat.le_of_ble_eq_true rfl)) dL_limits_252 ⟨Nat.le_of_ble_eq_true rfl, Nat.le_of_ble_eq_true rfl⟩) hP hD hS hJ0 hAl rfl (fun WC H locs hX hP hD hS hJ => ?_)
  have hR := PR_sav (B' := 160000) (f' := fCrs (fnL li_L10)) (by decide) hR (okf_mono (by decide) (okf_crs (by decide) hR.1))
  rw [li_e14] at hX hR
  replace hX : XS G q0 (fnL li_L11) (fnL li_L3) (rgS ff15 3 (fnL li_L10)) 4 6 0 (fnL T0) (nI 1) WC := hX
  replace hR : PR 160000 (fnL li_L11) (fnL li_L3) (rgS ff15 3 (fnL li_L10)) 4 6 0 (fnL T0) (nI 1) := hR
  obtain ⟨ff16, hff16⟩ : ∃ F, F = rgS ff15 3 (fnL li_L10) := ⟨_, rfl⟩
  rw [← hff16] at hX hR
  refine tI (y := nI 1) (by decide +kernel) ?_
  refine lv_iconst (v := nI 1) hx hb dL_limits_255 (by decide +kernel) ?_
  refine lv_icmp_ne (tgt := 364) hx hb dL_limits_256 (by decide) (fun h => absurd h (by decide +kernel)) (fun _ => ?_)
  refine lv_aload_n hx hb dL_limits_259 rfl (lv_at hl 1 rfl) ?_
  refine lv_bipush (v := nI 9) hx hb dL_limits_260 (by decide +kernel) ?_
  refine lv_iconst (v := nI 1) hx hb dL_limits_262 (by decide +kernel) ?_
  refine cx0 (st1 := [.int (fOf (fnL li_L11) 9 1)]) (va_runV (As := [.int (nI 9), .int (nI 1)]) (rest := []) ⟨hx, hb, hml, hown, hts⟩ (CX_section_ok l G hX hR (by decide) 9 1 (by decide +kernel) (by decide +kernel)) (cwV 2 hts gL_limits_X5_section rfl rfl rfl (by decide +kernel) ⟨Nat.le_of_ble_eq_true rfl, Nat.le_of_ble_eq_true rfl⟩) (PJ.preV hE hJ.jx (xs_recv hE.1 hX (P_pre hP)) ⟨P_pre hP, D_tr (D_pre hD)⟩) rfl rfl hl.1 rfl (lv_room (Nat.le_of_ble_eq_true rfl)) dL_limits_263 ⟨Nat.le_of_ble_eq_true rfl, Nat.le_of_ble_eq_true rfl⟩) hP hD hS hJ0 hAl rfl (fun WC H locs hX hP hD hS hJ => ?_)
  refine tI (y := nI 20) (by decide +kernel) ?_
  refine lv_bipush (v := nI 20) hx hb dL_limits_266 (by decide +kernel) ?_
  refine lv_icmp_ne (tgt := 364) hx hb dL_limits_268 (by decide) (fun h => absurd h (by decide +kernel)) (fun _ => ?_)
  refine lv_aload_n hx hb dL_limits_271 rfl (lv_at hl 1 rfl) ?_
  refine lv_iconst (v := nI 5) hx hb dL_limits_272 (by decide +kernel) ?_
  refine cx0 (st1 := [.int (fCnt (fnL li_L11) 6 5)]) (va_runV (As := [.int (nI 5)]) (rest := []) ⟨hx, hb, hml, hown, hts⟩ (CX_count_ok l G hX hR (by decide) 5 (by decide +kernel)) (cwV 1 hts gL_limits_X5_count rfl rfl rfl (by decide +kernel) ⟨Nat.le_of_ble_eq_true rfl, Nat.le_of_ble_eq_true rfl⟩) (PJ.preV hE hJ.jx (xs_recv hE.1 hX (P_pre hP)) ⟨P_pre hP, D_tr (D_pre hD)⟩) rfl rfl hl.1 rfl (lv_room (Nat.le_of_ble_eq_true rfl)) dL_limits_273 ⟨Nat.le_of_ble_eq_true rfl, Nat.le_of_ble_eq_true rfl⟩) hP hD hS hJ0 hAl rfl (fun WC H locs hX hP hD hS hJ => ?_)
  refine tI (y := nI 1) (by decide +kernel) ?_
  refine lv_iconst (v := nI 1) hx hb dL_limits_276 (by decide +kernel) ?_
  refine lv_icmp_ne (tgt := 364) hx hb dL_limits_277 (by decide) (fun h => absurd h (by decide +kernel)) (fun _ => ?_)
  refine lv_aload_n hx hb dL_limits_280 rfl (lv_at hl 1 rfl) ?_
  refine lv_bipush (v := nI 9) hx hb dL_limits_281 (by decide +kernel) ?_
  refine lv_iconst (v := nI 2) hx hb dL_limits_283 (by decide +kernel) ?_
  refine cx0 (st1 := [.int (fOf (fnL li_L11) 9 2)]) (va_runV (As := [.int (nI 9), .int (nI 2)]) (rest := []) ⟨hx, hb, hml, hown, hts⟩ (CX_section_ok l G hX hR (by decide) 9 2 (by decide +kernel) (by decide +kernel)) (cwV 2 hts gL_limits_X5_section rfl rfl rfl (by decide +kernel) ⟨Nat.le_of_ble_eq_true rfl, Nat.le_of_ble_eq_true rfl⟩) (PJ.preV hE hJ.jx (xs_recv hE.1 hX (P_pre hP)) ⟨P_pre hP, D_tr (D_pre hD)⟩) rfl rfl hl.1 rfl (lv_room (Nat.le_of_ble_eq_true rfl)) dL_limits_284 ⟨Nat.le_of_ble_eq_true rfl, Nat.le_of_ble_eq_true rfl⟩) hP hD hS hJ0 hAl rfl (fun WC H locs hX hP hD hS hJ => ?_)
  refine tI (y := nI 16) (by decide +kernel) ?_
  refine lv_bipush (v := nI 16) hx hb dL_limits_287 (by decide +kernel) ?_
  refine lv_icmp_ne (tgt := 364) hx hb dL_limits_289 (by decide) (fun h => absurd h (by decide +kernel)) (fun _ => ?_)
  refine lv_aload_n hx hb dL_limits_292 rfl (lv_at hl 1 rfl) ?_
  refine cx0 (st1 := [.int (nI (fHrs (fnL li_L11)))]) (va_runV (As := []) (rest := []) ⟨hx, hb, hml, hown, hts⟩ (CX_cross_ok l G hX hR (by decide) (okf_cro hR.1).1 (by decide +kernel)) (cwV 0 hts gL_limits_X5_cross rfl rfl rfl (by decide +kernel) ⟨Nat.le_of_ble_eq_true rfl, Nat.le_of_ble_eq_true rfl⟩) (PJ.preV hE hJ.jx (xs_recv hE.1 hX (P_pre hP)) ⟨P_pre hP, D_tr (D_pre hD)⟩) rfl rfl hl.1 rfl (lv_room (Nat.le_of_ble_eq_true rfl)) dL_limits_293 ⟨Nat.le_of_ble_eq_true rfl, Nat.le_of_ble_eq_true rfl⟩) hP hD hS hJ0 hAl rfl (fun WC H locs hX hP hD hS hJ => ?_)
  have hR := PR_sav (B' := 170000) (f' := fCrs (fnL li_L11)) (by decide) hR (okf_mono (by decide) (okf_crs (by decide) hR.1))
  rw [li_e15] at hX hR
  replace hX : XS G q0 (fnL li_L12) (fnL li_L3) (rgS ff16 4 (fnL li_L11)) 5 6 0 (fnL T0) (nI 1) WC := hX
  replace hR : PR 170000 (fnL li_L12) (fnL li_L3) (rgS ff16 4 (fnL li_L11)) 5 6 0 (fnL T0) (nI 1) := hR
  obtain ⟨ff17, hff17⟩ : ∃ F, F = rgS ff16 4 (fnL li_L11) := ⟨_, rfl⟩
  rw [← hff17] at hX hR
  refine tI (y := nI 1) (by decide +kernel) ?_
  refine lv_iconst (v := nI 1) hx hb dL_limits_296 (by decide +kernel) ?_
  refine lv_icmp_ne (tgt := 364) hx hb dL_limits_297 (by decide) (fun h => absurd h (by decide +kernel)) (fun _ => ?_)
  refine lv_aload_n hx hb dL_limits_300 rfl (lv_at hl 1 rfl) ?_
  refine lv_bipush (v := nI 9) hx hb dL_limits_301 (by decide +kernel) ?_
  refine lv_iconst (v := nI 0) hx hb dL_limits_303 (by decide +kernel) ?_
  refine cx0 (st1 := [.int (fOf (fnL li_L12) 9 0)]) (va_runV (As := [.int (nI 9), .int (nI 0)]) (rest := []) ⟨hx, hb, hml, hown, hts⟩ (CX_section_ok l G hX hR (by decide) 9 0 (by decide +kernel) (by decide +kernel)) (cwV 2 hts gL_limits_X5_section rfl rfl rfl (by decide +kernel) ⟨Nat.le_of_ble_eq_true rfl, Nat.le_of_ble_eq_true rfl⟩) (PJ.preV hE hJ.jx (xs_recv hE.1 hX (P_pre hP)) ⟨P_pre hP, D_tr (D_pre hD)⟩) rfl rfl hl.1 rfl (lv_room (Nat.le_of_ble_eq_true rfl)) dL_limits_304 ⟨Nat.le_of_ble_eq_true rfl, Nat.le_of_ble_eq_true rfl⟩) hP hD hS hJ0 hAl rfl (fun WC H locs hX hP hD hS hJ => ?_)
  refine tI (y := nI 76) (by decide +kernel) ?_
  refine lv_bipush (v := nI 76) hx hb dL_limits_307 (by decide +kernel) ?_
  refine lv_icmp_ne (tgt := 364) hx hb dL_limits_309 (by decide) (fun h => absurd h (by decide +kernel)) (fun _ => ?_)
  refine lv_aload_n hx hb dL_limits_312 rfl (lv_at hl 1 rfl) ?_
  refine lv_bipush (v := nI 9) hx hb dL_limits_313 (by decide +kernel) ?_
  refine lv_iconst (v := nI 1) hx hb dL_limits_315 (by decide +kernel) ?_
  refine cx0 (st1 := [.int (fOf (fnL li_L12) 9 1)]) (va_runV (As := [.int (nI 9), .int (nI 1)]) (rest := []) ⟨hx, hb, hml, hown, hts⟩ (CX_section_ok l G hX hR (by decide) 9 1 (by decide +kernel) (by decide +kernel)) (cwV 2 hts gL_limits_X5_section rfl rfl rfl (by decide +kernel) ⟨Nat.le_of_ble_eq_true rfl, Nat.le_of_ble_eq_true rfl⟩) (PJ.preV hE hJ.jx (xs_recv hE.1 hX (P_pre hP)) ⟨P_pre hP, D_tr (D_pre hD)⟩) rfl rfl hl.1 rfl (lv_room (Nat.le_of_ble_eq_true rfl)) dL_limits_316 ⟨Nat.le_of_ble_eq_true rfl, Nat.le_of_ble_eq_true rfl⟩) hP hD hS hJ0 hAl rfl (fun WC H locs hX hP hD hS hJ => ?_)
  refine tI (y := nI 12) (by decide +kernel) ?_
  refine lv_bipush (v := nI 12) hx hb dL_limits_319 (by decide +kernel) ?_
  refine lv_icmp_ne (tgt := 364) hx hb dL_limits_321 (by decide) (fun h => absurd h (by decide +kernel)) (fun _ => ?_)
  refine lv_aload_n hx hb dL_limits_324 rfl (lv_at hl 1 rfl) ?_
  refine lv_bipush (v := nI 6) hx hb dL_limits_325 (by decide +kernel) ?_
  refine cx0 (st1 := [.int (fCnt (fnL li_L12) 6 6)]) (va_runV (As := [.int (nI 6)]) (rest := []) ⟨hx, hb, hml, hown, hts⟩ (CX_count_ok l G hX hR (by decide) 6 (by decide +kernel)) (cwV 1 hts gL_limits_X5_count rfl rfl rfl (by decide +kernel) ⟨Nat.le_of_ble_eq_true rfl, Nat.le_of_ble_eq_true rfl⟩) (PJ.preV hE hJ.jx (xs_recv hE.1 hX (P_pre hP)) ⟨P_pre hP, D_tr (D_pre hD)⟩) rfl rfl hl.1 rfl (lv_room (Nat.le_of_ble_eq_true rfl)) dL_limits_327 ⟨Nat.le_of_ble_eq_true rfl, Nat.le_of_ble_eq_true rfl⟩) hP hD hS hJ0 hAl rfl (fun WC H locs hX hP hD hS hJ => ?_)
  refine tI (y := nI 304) (by decide +kernel) ?_
  refine lv_sipush (v := nI 304) hx hb dL_limits_330 (by decide +kernel) ?_
  refine lv_icmp_ne (tgt := 364) hx hb dL_limits_333 (by decide) (fun h => absurd h (by decide +kernel)) (fun _ => ?_)
  refine lv_aload_n hx hb dL_limits_336 rfl (lv_at hl 1 rfl) ?_
  refine lv_bipush (v := nI 9) hx hb dL_limits_337 (by decide +kernel) ?_
  refine lv_iconst (v := nI 2) hx hb dL_limits_339 (by decide +kernel) ?_
  refine cx0 (st1 := [.int (fOf (fnL li_L12) 9 2)]) (va_runV (As := [.int (nI 9), .int (nI 2)]) (rest := []) ⟨hx, hb, hml, hown, hts⟩ (CX_section_ok l G hX hR (by decide) 9 2 (by decide +kernel) (by decide +kernel)) (cwV 2 hts gL_limits_X5_section rfl rfl rfl (by decide +kernel) ⟨Nat.le_of_ble_eq_true rfl, Nat.le_of_ble_eq_true rfl⟩) (PJ.preV hE hJ.jx (xs_recv hE.1 hX (P_pre hP)) ⟨P_pre hP, D_tr (D_pre hD)⟩) rfl rfl hl.1 rfl (lv_room (Nat.le_of_ble_eq_true rfl)) dL_limits_340 ⟨Nat.le_of_ble_eq_true rfl, Nat.le_of_ble_eq_true rfl⟩) hP hD hS hJ0 hAl rfl (fun WC H locs hX hP hD hS hJ => ?_)
  refine tI (y := nI 16) (by decide +kernel) ?_
  refine lv_bipush (v := nI 16) hx hb dL_limits_343 (by decide +kernel) ?_
  refine lv_icmp_ne (tgt := 364) hx hb dL_limits_345 (by decide) (fun h => absurd h (by decide +kernel)) (fun _ => ?_)
  refine lv_aload_n hx hb dL_limits_348 rfl (lv_at hl 1 rfl) ?_
  refine cx0 (st1 := [.int (fRsn (fnL li_L12))]) (va_runV (As := []) (rest := []) ⟨hx, hb, hml, hown, hts⟩ (CX_why l G hX hR (by decide) ) (cwV 0 hts gL_limits_X5_why rfl rfl rfl (by decide +kernel) ⟨Nat.le_of_ble_eq_true rfl, Nat.le_of_ble_eq_true rfl⟩) (PJ.preV hE hJ.jx (xs_recv hE.1 hX (P_pre hP)) ⟨P_pre hP, D_tr (D_pre hD)⟩) rfl rfl hl.1 rfl (lv_room (Nat.le_of_ble_eq_true rfl)) dL_limits_349 ⟨Nat.le_of_ble_eq_true rfl, Nat.le_of_ble_eq_true rfl⟩) hP hD hS hJ0 hAl rfl (fun WC H locs hX hP hD hS hJ => ?_)
  refine tI (y := nI 3) (by decide +kernel) ?_
  refine lv_iconst (v := nI 3) hx hb dL_limits_352 (by decide +kernel) ?_
  refine lv_icmp_ne (tgt := 364) hx hb dL_limits_353 (by decide) (fun h => absurd h (by decide +kernel)) (fun _ => ?_)
  refine lv_aload_n hx hb dL_limits_356 rfl (lv_at hl 1 rfl) ?_
  refine cx0 (st1 := [.int (fNd (fnL li_L12))]) (va_runV (As := []) (rest := []) ⟨hx, hb, hml, hown, hts⟩ (CX_needed_ok l G hX hR (by decide) ) (cwV 0 hts gL_limits_X5_needed rfl rfl rfl (by decide +kernel) ⟨Nat.le_of_ble_eq_true rfl, Nat.le_of_ble_eq_true rfl⟩) (PJ.preV hE hJ.jx (xs_recv hE.1 hX (P_pre hP)) ⟨P_pre hP, D_tr (D_pre hD)⟩) rfl rfl hl.1 rfl (lv_room (Nat.le_of_ble_eq_true rfl)) dL_limits_357 ⟨Nat.le_of_ble_eq_true rfl, Nat.le_of_ble_eq_true rfl⟩) hP hD hS hJ0 hAl rfl (fun WC H locs hX hP hD hS hJ => ?_)
  refine tI (y := nI 5) (by decide +kernel) ?_
  refine lv_iconst (v := nI 5) hx hb dL_limits_360 (by decide +kernel) ?_
  refine lv_icmp_eq (tgt := 366) hx hb dL_limits_361 (by decide) (fun _ => ?_) (fun h => absurd h (by decide +kernel))
  clear hX hR hP hD
  have hP : va_P G.1 vwCl [] H := P_nil
  have hD : va_D (AA s) [] := ⟨fun i j p q h => by simp at h, fun k q h => by simp at h⟩
  refine va_new (ci := 5) (fs := [.null, .null, .null, .null, .null, .int (nI 0)]) (C := RX5) (T := TX5) (N := 6) hx hb hts (by decide +kernel) tyX5 tyX5_ok hown (hts (.classLink RL 10 RX5) (by decide +kernel)) (hts (.instantiable RX5 6) (by decide +kernel)) (hts (.initialized RX5) (by decide +kernel)) hE.1 hP hD hS hA rfl (fun j hj => by rcases (show j = 0 ∨ j = 1 ∨ j = 2 ∨ j = 3 ∨ j = 4 ∨ j = 5 by omega) with rfl | rfl | rfl | rfl | rfl | rfl <;> rfl) (Nat.le_of_ble_eq_true rfl) (Nat.le_of_ble_eq_true rfl) dL_limits_366 (fun q366 H hP hD hS => ?_)
  refine W.widen (k := 159) (n := 1318) (Nat.le_of_ble_eq_true rfl) (Nat.le_of_ble_eq_true rfl) ?_
  refine lv_dup hx hb dL_limits_369 rfl ?_
  have hFc := frC (w := []) hD hS hA
  refine mcall (st1 := [.ref q366]) (va_runI (As := []) (rest := [.ref q366]) ⟨hx, hb, hml, hown, hts⟩ (c_X5_init l G lo q366 H.size (Nat.le_trans hJ0.1 (D_last (w := []) hD)) (Nat.le_trans hJ0.1 hS.1)) (cwI 0 hts gL_limits_X5_init rfl rfl rfl (hts (.initialized RX5) (by decide +kernel)) (hts (.methodLink RL 105 yX5_init) (by decide +kernel)) (hts (.instanceMethod yX5_init) (by decide +kernel)) rfl (by decide +kernel) ⟨Nat.le_of_ble_eq_true rfl, Nat.le_of_ble_eq_true rfl⟩) (PF.preS hE (hF0.kept (fun a h1 h2 => hS.2.1 a h1 (fun h => h2 (Nat.le_trans hJ0.1 h)))) ⟨rfl, P_last (w := []) hP⟩) rfl rfl hl.1 rfl (lv_room (Nat.le_of_ble_eq_true rfl)) dL_limits_370 ⟨Nat.le_of_ble_eq_true rfl, Nat.le_of_ble_eq_true rfl⟩) hS (fun x _ h => hFc x h) hFc rfl (fun H1 locs1 hB hz1 hk1 hS => ?_)
  refine W.widen (k := 316) (n := 2624) (Nat.le_of_ble_eq_true rfl) (Nat.le_of_ble_eq_true rfl) ?_
  obtain ⟨an, tn, sn, ha, sv, aa, oa, co, hP1, hD1⟩ := hB
  obtain ⟨hP, hD⟩ := jnC (w := []) hP hD hFc hk1 hP1 hD1
  clear hP1 hD1 hFc
  generalize H1 = H at hP hS ⊢
  obtain ⟨WC, hX, hP, hD⟩ := new_XS hP hD
  have hR := new_PR
  have hJ : JB lo s H := hJ0.S hAl hS
  refine lv_astore_n (lv' := [(1, .ref q366), (0, .ref q0)]) hx hb dL_limits_373 rfl hl (by decide) rfl (fun ls hl => ?_)
  refine lv_iconst (v := nI 0) hx hb dL_limits_374 (by decide +kernel) ?_
  refine lv_istore_n (lv' := [(2, .int (nI 0)), (1, .ref q366), (0, .ref q0)]) hx hb dL_limits_375 rfl hl (by decide) rfl (fun ls hl => ?_)
  refine lv_iload_n hx hb dL_limits_376 rfl (lv_at hl 0 rfl) ?_
  refine lv_bipush (v := nI 10) hx hb dL_limits_377 (by decide +kernel) ?_
  refine lv_icmp_ge (tgt := 404) hx hb dL_limits_379 (by decide) (fun h => absurd h (by decide +kernel)) (fun _ => ?_)
  refine lv_aload_n hx hb dL_limits_382 rfl (lv_at hl 1 rfl) ?_
  refine lv_iconst (v := nI 1) hx hb dL_limits_383 (by decide +kernel) ?_
  refine lv_iconst (v := nI 1) hx hb dL_limits_384 (by decide +kernel) ?_
  refine lv_iload_n hx hb dL_limits_385 rfl (lv_at hl 0 rfl) ?_
  refine lv_iadd hx hb dL_limits_386 ?_
  refine tI (y := nI 1) (by decide +kernel) ?_
  refine cx0 (st1 := [.int ((fnL L0) (57 + (11 * 1)) + nI 1)]) (va_runV (As := [.int (nI 1), .int (nI 1)]) (rest := []) ⟨hx, hb, hml, hown, hts⟩ (CX_arrive_ok l G hX hR (by decide) 1 1 (by decide +kernel) (by decide +kernel) (by decide +kernel) (by decide +kernel)) (cwV 2 hts gL_limits_X5_arrive rfl rfl rfl (by decide +kernel) ⟨Nat.le_of_ble_eq_true rfl, Nat.le_of_ble_eq_true rfl⟩) (PJ.preV hE hJ.jx (xs_recv hE.1 hX (P_pre hP)) ⟨P_pre hP, D_tr (D_pre hD)⟩) rfl rfl hl.1 rfl (lv_room (Nat.le_of_ble_eq_true rfl)) dL_limits_387 ⟨Nat.le_of_ble_eq_true rfl, Nat.le_of_ble_eq_true rfl⟩) hP hD hS hJ0 hAl rfl (fun WC H locs hX hP hD hS hJ => ?_)
  have hR := PR_sav (B' := 10000) (f' := fArr (fnL L0) 1 (nI 1)) (by decide) hR (okf_mono (by decide) (okf_arr hR.1 (by decide) (by decide) (by decide +kernel)))
  rw [li_e16] at hX hR
  replace hX : XS G q366 (fnL li_L13) (fnL L0) (rgS (fun _ => fnL L0) 0 (fnL L0)) 0 1 0 (fnL T0) (nI 0) WC := hX
  replace hR : PR 10000 (fnL li_L13) (fnL L0) (rgS (fun _ => fnL L0) 0 (fnL L0)) 0 1 0 (fnL T0) (nI 0) := hR
  obtain ⟨ff1, hff1⟩ : ∃ F, F = rgS (fun _ => fnL L0) 0 (fnL L0) := ⟨_, rfl⟩
  rw [← hff1] at hX hR
  refine tI (y := nI 1) (by decide +kernel) ?_
  refine lv_iload_n hx hb dL_limits_390 rfl (lv_at hl 0 rfl) ?_
  refine lv_iconst (v := nI 1) hx hb dL_limits_391 (by decide +kernel) ?_
  refine lv_iadd hx hb dL_limits_392 ?_
  refine tI (y := nI 1) (by decide +kernel) ?_
  refine lv_icmp_eq (tgt := 398) hx hb dL_limits_393 (by decide) (fun _ => ?_) (fun h => absurd h (by decide +kernel))
  refine lv_iinc (v := nI 1) (lv' := [(2, .int (nI 1)), (1, .ref q366), (0, .ref q0)]) hx hb dL_limits_398 hl (k := 0) rfl (by decide +kernel) (by decide) rfl (fun ls hl => ?_)
  refine lv_goto (tgt := 376) hx hb dL_limits_401 (by decide) ?_
  refine lv_iload_n hx hb dL_limits_376 rfl (lv_at hl 0 rfl) ?_
  refine lv_bipush (v := nI 10) hx hb dL_limits_377 (by decide +kernel) ?_
  refine lv_icmp_ge (tgt := 404) hx hb dL_limits_379 (by decide) (fun h => absurd h (by decide +kernel)) (fun _ => ?_)
  refine lv_aload_n hx hb dL_limits_382 rfl (lv_at hl 1 rfl) ?_
  refine lv_iconst (v := nI 1) hx hb dL_limits_383 (by decide +kernel) ?_
  refine lv_iconst (v := nI 1) hx hb dL_limits_384 (by decide +kernel) ?_
  refine lv_iload_n hx hb dL_limits_385 rfl (lv_at hl 0 rfl) ?_
  refine lv_iadd hx hb dL_limits_386 ?_
  refine tI (y := nI 2) (by decide +kernel) ?_
  refine cx0 (st1 := [.int ((fnL li_L13) (57 + (11 * 1)) + nI 1)]) (va_runV (As := [.int (nI 1), .int (nI 2)]) (rest := []) ⟨hx, hb, hml, hown, hts⟩ (CX_arrive_ok l G hX hR (by decide) 1 2 (by decide +kernel) (by decide +kernel) (by decide +kernel) (by decide +kernel)) (cwV 2 hts gL_limits_X5_arrive rfl rfl rfl (by decide +kernel) ⟨Nat.le_of_ble_eq_true rfl, Nat.le_of_ble_eq_true rfl⟩) (PJ.preV hE hJ.jx (xs_recv hE.1 hX (P_pre hP)) ⟨P_pre hP, D_tr (D_pre hD)⟩) rfl rfl hl.1 rfl (lv_room (Nat.le_of_ble_eq_true rfl)) dL_limits_387 ⟨Nat.le_of_ble_eq_true rfl, Nat.le_of_ble_eq_true rfl⟩) hP hD hS hJ0 hAl rfl (fun WC H locs hX hP hD hS hJ => ?_)
  have hR := PR_sav (B' := 20000) (f' := fArr (fnL li_L13) 1 (nI 2)) (by decide) hR (okf_mono (by decide) (okf_arr hR.1 (by decide) (by decide) (by decide +kernel)))
  rw [li_e17] at hX hR
  replace hX : XS G q366 (fnL li_L14) (fnL L0) (rgS ff1 1 (fnL li_L13)) 0 2 0 (fnL T0) (nI 0) WC := hX
  replace hR : PR 20000 (fnL li_L14) (fnL L0) (rgS ff1 1 (fnL li_L13)) 0 2 0 (fnL T0) (nI 0) := hR
  obtain ⟨ff2, hff2⟩ : ∃ F, F = rgS ff1 1 (fnL li_L13) := ⟨_, rfl⟩
  rw [← hff2] at hX hR
  refine tI (y := nI 2) (by decide +kernel) ?_
  refine lv_iload_n hx hb dL_limits_390 rfl (lv_at hl 0 rfl) ?_
  refine lv_iconst (v := nI 1) hx hb dL_limits_391 (by decide +kernel) ?_
  refine lv_iadd hx hb dL_limits_392 ?_
  refine tI (y := nI 2) (by decide +kernel) ?_
  refine lv_icmp_eq (tgt := 398) hx hb dL_limits_393 (by decide) (fun _ => ?_) (fun h => absurd h (by decide +kernel))
  refine lv_iinc (v := nI 2) (lv' := [(2, .int (nI 2)), (1, .ref q366), (0, .ref q0)]) hx hb dL_limits_398 hl (k := 0) rfl (by decide +kernel) (by decide) rfl (fun ls hl => ?_)
  refine lv_goto (tgt := 376) hx hb dL_limits_401 (by decide) ?_
  refine lv_iload_n hx hb dL_limits_376 rfl (lv_at hl 0 rfl) ?_
  refine lv_bipush (v := nI 10) hx hb dL_limits_377 (by decide +kernel) ?_
  refine lv_icmp_ge (tgt := 404) hx hb dL_limits_379 (by decide) (fun h => absurd h (by decide +kernel)) (fun _ => ?_)
  refine lv_aload_n hx hb dL_limits_382 rfl (lv_at hl 1 rfl) ?_
  refine lv_iconst (v := nI 1) hx hb dL_limits_383 (by decide +kernel) ?_
  refine lv_iconst (v := nI 1) hx hb dL_limits_384 (by decide +kernel) ?_
  refine lv_iload_n hx hb dL_limits_385 rfl (lv_at hl 0 rfl) ?_
  refine lv_iadd hx hb dL_limits_386 ?_
  refine tI (y := nI 3) (by decide +kernel) ?_
  refine cx0 (st1 := [.int ((fnL li_L14) (57 + (11 * 1)) + nI 1)]) (va_runV (As := [.int (nI 1), .int (nI 3)]) (rest := []) ⟨hx, hb, hml, hown, hts⟩ (CX_arrive_ok l G hX hR (by decide) 1 3 (by decide +kernel) (by decide +kernel) (by decide +kernel) (by decide +kernel)) (cwV 2 hts gL_limits_X5_arrive rfl rfl rfl (by decide +kernel) ⟨Nat.le_of_ble_eq_true rfl, Nat.le_of_ble_eq_true rfl⟩) (PJ.preV hE hJ.jx (xs_recv hE.1 hX (P_pre hP)) ⟨P_pre hP, D_tr (D_pre hD)⟩) rfl rfl hl.1 rfl (lv_room (Nat.le_of_ble_eq_true rfl)) dL_limits_387 ⟨Nat.le_of_ble_eq_true rfl, Nat.le_of_ble_eq_true rfl⟩) hP hD hS hJ0 hAl rfl (fun WC H locs hX hP hD hS hJ => ?_)
  have hR := PR_sav (B' := 30000) (f' := fArr (fnL li_L14) 1 (nI 3)) (by decide) hR (okf_mono (by decide) (okf_arr hR.1 (by decide) (by decide) (by decide +kernel)))
  rw [li_e18] at hX hR
  replace hX : XS G q366 (fnL li_L15) (fnL L0) (rgS ff2 2 (fnL li_L14)) 0 3 0 (fnL T0) (nI 0) WC := hX
  replace hR : PR 30000 (fnL li_L15) (fnL L0) (rgS ff2 2 (fnL li_L14)) 0 3 0 (fnL T0) (nI 0) := hR
  obtain ⟨ff3, hff3⟩ : ∃ F, F = rgS ff2 2 (fnL li_L14) := ⟨_, rfl⟩
  rw [← hff3] at hX hR
  refine tI (y := nI 3) (by decide +kernel) ?_
  refine lv_iload_n hx hb dL_limits_390 rfl (lv_at hl 0 rfl) ?_
  refine lv_iconst (v := nI 1) hx hb dL_limits_391 (by decide +kernel) ?_
  refine lv_iadd hx hb dL_limits_392 ?_
  refine tI (y := nI 3) (by decide +kernel) ?_
  refine lv_icmp_eq (tgt := 398) hx hb dL_limits_393 (by decide) (fun _ => ?_) (fun h => absurd h (by decide +kernel))
  refine lv_iinc (v := nI 3) (lv' := [(2, .int (nI 3)), (1, .ref q366), (0, .ref q0)]) hx hb dL_limits_398 hl (k := 0) rfl (by decide +kernel) (by decide) rfl (fun ls hl => ?_)
  refine lv_goto (tgt := 376) hx hb dL_limits_401 (by decide) ?_
  refine lv_iload_n hx hb dL_limits_376 rfl (lv_at hl 0 rfl) ?_
  refine lv_bipush (v := nI 10) hx hb dL_limits_377 (by decide +kernel) ?_
  refine lv_icmp_ge (tgt := 404) hx hb dL_limits_379 (by decide) (fun h => absurd h (by decide +kernel)) (fun _ => ?_)
  refine lv_aload_n hx hb dL_limits_382 rfl (lv_at hl 1 rfl) ?_
  refine lv_iconst (v := nI 1) hx hb dL_limits_383 (by decide +kernel) ?_
  refine lv_iconst (v := nI 1) hx hb dL_limits_384 (by decide +kernel) ?_
  refine lv_iload_n hx hb dL_limits_385 rfl (lv_at hl 0 rfl) ?_
  refine lv_iadd hx hb dL_limits_386 ?_
  refine tI (y := nI 4) (by decide +kernel) ?_
  refine cx0 (st1 := [.int ((fnL li_L15) (57 + (11 * 1)) + nI 1)]) (va_runV (As := [.int (nI 1), .int (nI 4)]) (rest := []) ⟨hx, hb, hml, hown, hts⟩ (CX_arrive_ok l G hX hR (by decide) 1 4 (by decide +kernel) (by decide +kernel) (by decide +kernel) (by decide +kernel)) (cwV 2 hts gL_limits_X5_arrive rfl rfl rfl (by decide +kernel) ⟨Nat.le_of_ble_eq_true rfl, Nat.le_of_ble_eq_true rfl⟩) (PJ.preV hE hJ.jx (xs_recv hE.1 hX (P_pre hP)) ⟨P_pre hP, D_tr (D_pre hD)⟩) rfl rfl hl.1 rfl (lv_room (Nat.le_of_ble_eq_true rfl)) dL_limits_387 ⟨Nat.le_of_ble_eq_true rfl, Nat.le_of_ble_eq_true rfl⟩) hP hD hS hJ0 hAl rfl (fun WC H locs hX hP hD hS hJ => ?_)
  have hR := PR_sav (B' := 40000) (f' := fArr (fnL li_L15) 1 (nI 4)) (by decide) hR (okf_mono (by decide) (okf_arr hR.1 (by decide) (by decide) (by decide +kernel)))
  rw [li_e19] at hX hR
  replace hX : XS G q366 (fnL li_L16) (fnL L0) (rgS ff3 3 (fnL li_L15)) 0 4 0 (fnL T0) (nI 0) WC := hX
  replace hR : PR 40000 (fnL li_L16) (fnL L0) (rgS ff3 3 (fnL li_L15)) 0 4 0 (fnL T0) (nI 0) := hR
  obtain ⟨ff4, hff4⟩ : ∃ F, F = rgS ff3 3 (fnL li_L15) := ⟨_, rfl⟩
  rw [← hff4] at hX hR
  refine tI (y := nI 4) (by decide +kernel) ?_
  refine lv_iload_n hx hb dL_limits_390 rfl (lv_at hl 0 rfl) ?_
  refine lv_iconst (v := nI 1) hx hb dL_limits_391 (by decide +kernel) ?_
  refine lv_iadd hx hb dL_limits_392 ?_
  refine tI (y := nI 4) (by decide +kernel) ?_
  refine lv_icmp_eq (tgt := 398) hx hb dL_limits_393 (by decide) (fun _ => ?_) (fun h => absurd h (by decide +kernel))
  refine lv_iinc (v := nI 4) (lv' := [(2, .int (nI 4)), (1, .ref q366), (0, .ref q0)]) hx hb dL_limits_398 hl (k := 0) rfl (by decide +kernel) (by decide) rfl (fun ls hl => ?_)
  refine lv_goto (tgt := 376) hx hb dL_limits_401 (by decide) ?_
  refine lv_iload_n hx hb dL_limits_376 rfl (lv_at hl 0 rfl) ?_
  refine lv_bipush (v := nI 10) hx hb dL_limits_377 (by decide +kernel) ?_
  refine lv_icmp_ge (tgt := 404) hx hb dL_limits_379 (by decide) (fun h => absurd h (by decide +kernel)) (fun _ => ?_)
  refine lv_aload_n hx hb dL_limits_382 rfl (lv_at hl 1 rfl) ?_
  refine lv_iconst (v := nI 1) hx hb dL_limits_383 (by decide +kernel) ?_
  refine lv_iconst (v := nI 1) hx hb dL_limits_384 (by decide +kernel) ?_
  refine lv_iload_n hx hb dL_limits_385 rfl (lv_at hl 0 rfl) ?_
  refine lv_iadd hx hb dL_limits_386 ?_
  refine tI (y := nI 5) (by decide +kernel) ?_
  refine cx0 (st1 := [.int ((fnL li_L16) (57 + (11 * 1)) + nI 1)]) (va_runV (As := [.int (nI 1), .int (nI 5)]) (rest := []) ⟨hx, hb, hml, hown, hts⟩ (CX_arrive_ok l G hX hR (by decide) 1 5 (by decide +kernel) (by decide +kernel) (by decide +kernel) (by decide +kernel)) (cwV 2 hts gL_limits_X5_arrive rfl rfl rfl (by decide +kernel) ⟨Nat.le_of_ble_eq_true rfl, Nat.le_of_ble_eq_true rfl⟩) (PJ.preV hE hJ.jx (xs_recv hE.1 hX (P_pre hP)) ⟨P_pre hP, D_tr (D_pre hD)⟩) rfl rfl hl.1 rfl (lv_room (Nat.le_of_ble_eq_true rfl)) dL_limits_387 ⟨Nat.le_of_ble_eq_true rfl, Nat.le_of_ble_eq_true rfl⟩) hP hD hS hJ0 hAl rfl (fun WC H locs hX hP hD hS hJ => ?_)
  have hR := PR_sav (B' := 50000) (f' := fArr (fnL li_L16) 1 (nI 5)) (by decide) hR (okf_mono (by decide) (okf_arr hR.1 (by decide) (by decide) (by decide +kernel)))
  rw [li_e20] at hX hR
  replace hX : XS G q366 (fnL li_L17) (fnL L0) (rgS ff4 4 (fnL li_L16)) 0 5 0 (fnL T0) (nI 0) WC := hX
  replace hR : PR 50000 (fnL li_L17) (fnL L0) (rgS ff4 4 (fnL li_L16)) 0 5 0 (fnL T0) (nI 0) := hR
  obtain ⟨ff5, hff5⟩ : ∃ F, F = rgS ff4 4 (fnL li_L16) := ⟨_, rfl⟩
  rw [← hff5] at hX hR
  refine tI (y := nI 5) (by decide +kernel) ?_
  refine lv_iload_n hx hb dL_limits_390 rfl (lv_at hl 0 rfl) ?_
  refine lv_iconst (v := nI 1) hx hb dL_limits_391 (by decide +kernel) ?_
  refine lv_iadd hx hb dL_limits_392 ?_
  refine tI (y := nI 5) (by decide +kernel) ?_
  refine lv_icmp_eq (tgt := 398) hx hb dL_limits_393 (by decide) (fun _ => ?_) (fun h => absurd h (by decide +kernel))
  replace hl : lv_has ls 3 [(2, .int (nI 4)), (1, .ref q366)] := lv_sub hl [0, 1] rfl
  exact li_s2 hlt hL9 hX hR hP hD hS hl

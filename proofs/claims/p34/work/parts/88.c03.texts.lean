set_option maxHeartbeats 8000000 in
set_option maxRecDepth 100000 in
theorem te_s3 {p : Program} {l : Launch} {e : Env} {s : State} {m : MethodId} {below : List Frame} {meth : Method} {c : Code} {G : eG} {lo : Nat} (hlt : l.stackTraces = false) (hL : LC cL_texts 2 wsL_texts p s m meth c ([] : List Value).toArray G lo) {q0 : Nat} {WC : va_W} {H : Heap} {locs : List Loc} {ls : Array Slot} (hX : XS G q0 (fnL L0) (fnL L0) (fun _ => fnL L0) 0 0 13 (fnL te_T19) (nI 0) WC) (hR : PR 0 (fnL L0) (fnL L0) (fun _ => fnL L0) 0 0 13 (fnL te_T19) (nI 0)) (hP : va_P G.1 vwCl (WC ++ []) H) (hD : va_D (AA s) (WC ++ [])) (hS : va_S (AA s) s.heap H locs) (hl : lv_has ls 2 [(0, .ref q0)]) : W p l e ({ frames := 8, cells := 162, slots := 1336, locals := 205 }) s m ([] : List Value).toArray below meth c H locs 160 1324 (MQ below (MV (some (.int (nI 1))) (fun _ => True) (AA s)) ([] : List Value).toArray s 162 1336 (AA s)) (F0 m 284 ls []) := by
  have hL9 := hL
  obtain ⟨hx, hb, hml, hown, hts, hE, hJ0, hF0, hr, hlocks⟩ := hL
  have hAl : ∀ q, AA s q → lo ≤ q := fun q h => Nat.le_trans hJ0.1 h
  have hA : ∀ q : Nat, s.heap.size ≤ q → AA s q := fun _ h => h
  have hJ : JB lo s _ := hJ0.S hAl hS
  refine lv_aload_n hx hb dL_texts_284 rfl (lv_at hl 0 rfl) ?_
  refine cx0 (st1 := [.int (nI (rR (nn (fnL te_T19)) 13))]) (va_runV (As := []) (rest := []) ⟨hx, hb, hml, hown, hts⟩ (CX_firstError l G hX hR (by decide) ) (cwV 0 hts gL_texts_X5_firstError rfl rfl rfl (by decide +kernel) ⟨Nat.le_of_ble_eq_true rfl, Nat.le_of_ble_eq_true rfl⟩) (PJ.preV hE hJ.jx (xs_recv hE.1 hX (P_pre hP)) ⟨P_pre hP, D_tr (D_pre hD)⟩) rfl rfl hl.1 rfl (lv_room (Nat.le_of_ble_eq_true rfl)) dL_texts_285 ⟨Nat.le_of_ble_eq_true rfl, Nat.le_of_ble_eq_true rfl⟩) hP hD hS hJ0 hAl rfl (fun WC H locs hX hP hD hS hJ => ?_)
  refine tI (y := nI 13) (by decide +kernel) ?_
  refine lv_bipush (v := nI 13) hx hb dL_texts_288 (by decide +kernel) ?_
  refine lv_icmp_ne (tgt := 439) hx hb dL_texts_290 (by decide) (fun h => absurd h (by decide +kernel)) (fun _ => ?_)
  refine lv_aload_n hx hb dL_texts_293 rfl (lv_at hl 0 rfl) ?_
  refine cx0 (st1 := [.int (nI (yC (nn (fnL te_T19)) 13 13 0 (fnL L0)))]) (va_runV (As := []) (rest := []) ⟨hx, hb, hml, hown, hts⟩ (CX_obey_ok l G hX hR (by decide) (by decide +kernel) (by decide +kernel)) (cwV 0 hts gL_texts_X5_obey rfl rfl rfl (by decide +kernel) ⟨Nat.le_of_ble_eq_true rfl, Nat.le_of_ble_eq_true rfl⟩) (PJ.preV hE hJ.jx (xs_recv hE.1 hX (P_pre hP)) ⟨P_pre hP, D_tr (D_pre hD)⟩) rfl rfl hl.1 rfl (lv_room (Nat.le_of_ble_eq_true rfl)) dL_texts_294 ⟨Nat.le_of_ble_eq_true rfl, Nat.le_of_ble_eq_true rfl⟩) hP hD hS hJ0 hAl rfl (fun WC H locs hX hP hD hS hJ => ?_)
  have hR := PR_len0 (PR_sav (B' := 10000) (by decide) hR (okf_yF (tx := (fnL te_T19)) (len := 13) (f := (fnL L0)) (by decide) hR.1 hR.2.2.2.2.2.1.1 (by decide +kernel)))
  rw [te_e20] at hX hR
  replace hX : XS G q0 (fnL te_L1) (fnL L0) (rgS (fun _ => fnL L0) 0 (fnL L0)) 0 1 0 (fnL te_T19) (nI 0) WC := hX
  replace hR : PR 10000 (fnL te_L1) (fnL L0) (rgS (fun _ => fnL L0) 0 (fnL L0)) 0 1 0 (fnL te_T19) (nI 0) := hR
  obtain ⟨ff1, hff1⟩ : ∃ F, F = rgS (fun _ => fnL L0) 0 (fnL L0) := ⟨_, rfl⟩
  rw [← hff1] at hX hR
  refine tI (y := nI 2) (by decide +kernel) ?_
  refine lv_iconst (v := nI 2) hx hb dL_texts_297 (by decide +kernel) ?_
  refine lv_icmp_ne (tgt := 439) hx hb dL_texts_298 (by decide) (fun h => absurd h (by decide +kernel)) (fun _ => ?_)
  refine lv_aload_n hx hb dL_texts_301 rfl (lv_at hl 0 rfl) ?_
  refine cx0 (st1 := [.int (nI 0)]) (va_runV (As := []) (rest := []) ⟨hx, hb, hml, hown, hts⟩ (CX_clearBuffer l G hX hR (by decide) ) (cwV 0 hts gL_texts_X5_clearBuffer rfl rfl rfl (by decide +kernel) ⟨Nat.le_of_ble_eq_true rfl, Nat.le_of_ble_eq_true rfl⟩) (PJ.preV hE hJ.jx (xs_recv hE.1 hX (P_pre hP)) ⟨P_pre hP, D_tr (D_pre hD)⟩) rfl rfl hl.1 rfl (lv_room (Nat.le_of_ble_eq_true rfl)) dL_texts_302 ⟨Nat.le_of_ble_eq_true rfl, Nat.le_of_ble_eq_true rfl⟩) hP hD hS hJ0 hAl rfl (fun WC H locs hX hP hD hS hJ => ?_)
  have hR := PR_len0 hR
  replace hX : XS G q0 (fnL te_L1) (fnL L0) ff1 0 1 0 (fnL te_T19) (nI 0) WC := hX
  replace hR : PR 10000 (fnL te_L1) (fnL L0) ff1 0 1 0 (fnL te_T19) (nI 0) := hR
  refine tI (y := nI 0) (by decide +kernel) ?_
  refine lv_if_ne (tgt := 439) hx hb dL_texts_305 (by decide) (fun h => absurd h (by decide +kernel)) (fun _ => ?_)
  refine lv_aload_n hx hb dL_texts_308 rfl (lv_at hl 0 rfl) ?_
  refine lv_iconst (v := nI 3) hx hb dL_texts_309 (by decide +kernel) ?_
  refine cx0 (st1 := [.int (fCnt (fnL te_L1) 1 3)]) (va_runV (As := [.int (nI 3)]) (rest := []) ⟨hx, hb, hml, hown, hts⟩ (CX_count_ok l G hX hR (by decide) 3 (by decide +kernel)) (cwV 1 hts gL_texts_X5_count rfl rfl rfl (by decide +kernel) ⟨Nat.le_of_ble_eq_true rfl, Nat.le_of_ble_eq_true rfl⟩) (PJ.preV hE hJ.jx (xs_recv hE.1 hX (P_pre hP)) ⟨P_pre hP, D_tr (D_pre hD)⟩) rfl rfl hl.1 rfl (lv_room (Nat.le_of_ble_eq_true rfl)) dL_texts_310 ⟨Nat.le_of_ble_eq_true rfl, Nat.le_of_ble_eq_true rfl⟩) hP hD hS hJ0 hAl rfl (fun WC H locs hX hP hD hS hJ => ?_)
  refine tI (y := nI 20) (by decide +kernel) ?_
  refine lv_bipush (v := nI 20) hx hb dL_texts_313 (by decide +kernel) ?_
  refine lv_icmp_ne (tgt := 439) hx hb dL_texts_315 (by decide) (fun h => absurd h (by decide +kernel)) (fun _ => ?_)
  refine lv_aload_n hx hb dL_texts_318 rfl (lv_at hl 0 rfl) ?_
  refine lv_iconst (v := nI 1) hx hb dL_texts_319 (by decide +kernel) ?_
  refine cx0 (st1 := [.int (fCnt (fnL te_L1) 1 1)]) (va_runV (As := [.int (nI 1)]) (rest := []) ⟨hx, hb, hml, hown, hts⟩ (CX_count_ok l G hX hR (by decide) 1 (by decide +kernel)) (cwV 1 hts gL_texts_X5_count rfl rfl rfl (by decide +kernel) ⟨Nat.le_of_ble_eq_true rfl, Nat.le_of_ble_eq_true rfl⟩) (PJ.preV hE hJ.jx (xs_recv hE.1 hX (P_pre hP)) ⟨P_pre hP, D_tr (D_pre hD)⟩) rfl rfl hl.1 rfl (lv_room (Nat.le_of_ble_eq_true rfl)) dL_texts_320 ⟨Nat.le_of_ble_eq_true rfl, Nat.le_of_ble_eq_true rfl⟩) hP hD hS hJ0 hAl rfl (fun WC H locs hX hP hD hS hJ => ?_)
  refine tI (y := nI 0) (by decide +kernel) ?_
  refine lv_if_ne (tgt := 439) hx hb dL_texts_323 (by decide) (fun h => absurd h (by decide +kernel)) (fun _ => ?_)
  refine lv_aload_n hx hb dL_texts_326 rfl (lv_at hl 0 rfl) ?_
  refine lv_bipush (v := nI 13) hx hb dL_texts_327 (by decide +kernel) ?_
  refine cx0 (st1 := [.int (fCnt (fnL te_L1) 1 13)]) (va_runV (As := [.int (nI 13)]) (rest := []) ⟨hx, hb, hml, hown, hts⟩ (CX_count_ok l G hX hR (by decide) 13 (by decide +kernel)) (cwV 1 hts gL_texts_X5_count rfl rfl rfl (by decide +kernel) ⟨Nat.le_of_ble_eq_true rfl, Nat.le_of_ble_eq_true rfl⟩) (PJ.preV hE hJ.jx (xs_recv hE.1 hX (P_pre hP)) ⟨P_pre hP, D_tr (D_pre hD)⟩) rfl rfl hl.1 rfl (lv_room (Nat.le_of_ble_eq_true rfl)) dL_texts_329 ⟨Nat.le_of_ble_eq_true rfl, Nat.le_of_ble_eq_true rfl⟩) hP hD hS hJ0 hAl rfl (fun WC H locs hX hP hD hS hJ => ?_)
  refine tI (y := nI 1) (by decide +kernel) ?_
  refine lv_iconst (v := nI 1) hx hb dL_texts_332 (by decide +kernel) ?_
  refine lv_icmp_ne (tgt := 439) hx hb dL_texts_333 (by decide) (fun h => absurd h (by decide +kernel)) (fun _ => ?_)
  refine lv_aload_n hx hb dL_texts_336 rfl (lv_at hl 0 rfl) ?_
  refine lv_ldc2 (v := 8447477722861679675) hx hb hown (hts (.constantLong RL 187 (8447477722861679675)) (by decide +kernel)) dL_texts_337 ?_
  refine cx0 (st1 := [.int (nI 1)]) (va_runS (As := [.ref q0, .long 8447477722861679675]) (rest := []) ⟨hx, hb, hml, hown, hts⟩ (K_types l G hX hR (by decide) 8447477722861679675 [117, 59, 120, 59, 119, 50, 52, 59] te_w20 (by decide)) (va_cwS 2 hts gL_texts_L_types rfl rfl rfl (by decide +kernel) ⟨Nat.le_of_ble_eq_true rfl, Nat.le_of_ble_eq_true rfl⟩) (PK.preS hE hJ ⟨P_pre hP, D_al hAl (D_pre hD)⟩) rfl rfl hl.1 rfl (lv_room (Nat.le_of_ble_eq_true rfl)) dL_texts_340 ⟨Nat.le_of_ble_eq_true rfl, Nat.le_of_ble_eq_true rfl⟩) hP hD hS hJ0 hAl rfl (fun WC H locs hX hP hD hS hJ => ?_)
  have hR := PR_ty te_w20 (by decide) hR
  rw [te_e21, te_e21l] at hX hR
  replace hX : XS G q0 (fnL te_L1) (fnL L0) ff1 0 1 8 (fnL te_T20) (nI 0) WC := hX
  replace hR : PR 10000 (fnL te_L1) (fnL L0) ff1 0 1 8 (fnL te_T20) (nI 0) := hR
  refine lv_if_eq (tgt := 439) hx hb dL_texts_343 (by decide) (fun h => absurd h (by decide +kernel)) (fun _ => ?_)
  refine lv_aload_n hx hb dL_texts_346 rfl (lv_at hl 0 rfl) ?_
  refine lv_ldc2 (v := 28206026821024307) hx hb hown (hts (.constantLong RL 189 (28206026821024307)) (by decide +kernel)) dL_texts_347 ?_
  refine cx0 (st1 := [.int (nI 1)]) (va_runS (As := [.ref q0, .long 28206026821024307]) (rest := []) ⟨hx, hb, hml, hown, hts⟩ (K_types l G hX hR (by decide) 28206026821024307 [0, 100, 53, 59, 97, 49, 58, 51] te_w21 (by decide)) (va_cwS 2 hts gL_texts_L_types rfl rfl rfl (by decide +kernel) ⟨Nat.le_of_ble_eq_true rfl, Nat.le_of_ble_eq_true rfl⟩) (PK.preS hE hJ ⟨P_pre hP, D_al hAl (D_pre hD)⟩) rfl rfl hl.1 rfl (lv_room (Nat.le_of_ble_eq_true rfl)) dL_texts_350 ⟨Nat.le_of_ble_eq_true rfl, Nat.le_of_ble_eq_true rfl⟩) hP hD hS hJ0 hAl rfl (fun WC H locs hX hP hD hS hJ => ?_)
  have hR := PR_ty te_w21 (by decide) hR
  rw [te_e22, te_e22l] at hX hR
  replace hX : XS G q0 (fnL te_L1) (fnL L0) ff1 0 1 15 (fnL te_T21) (nI 0) WC := hX
  replace hR : PR 10000 (fnL te_L1) (fnL L0) ff1 0 1 15 (fnL te_T21) (nI 0) := hR
  refine lv_if_eq (tgt := 439) hx hb dL_texts_353 (by decide) (fun h => absurd h (by decide +kernel)) (fun _ => ?_)
  refine lv_aload_n hx hb dL_texts_356 rfl (lv_at hl 0 rfl) ?_
  refine cx0 (st1 := [.int (nI (yC (nn (fnL te_T21)) 15 15 0 (fnL te_L1)))]) (va_runV (As := []) (rest := []) ⟨hx, hb, hml, hown, hts⟩ (CX_obey_ok l G hX hR (by decide) (by decide +kernel) (by decide +kernel)) (cwV 0 hts gL_texts_X5_obey rfl rfl rfl (by decide +kernel) ⟨Nat.le_of_ble_eq_true rfl, Nat.le_of_ble_eq_true rfl⟩) (PJ.preV hE hJ.jx (xs_recv hE.1 hX (P_pre hP)) ⟨P_pre hP, D_tr (D_pre hD)⟩) rfl rfl hl.1 rfl (lv_room (Nat.le_of_ble_eq_true rfl)) dL_texts_357 ⟨Nat.le_of_ble_eq_true rfl, Nat.le_of_ble_eq_true rfl⟩) hP hD hS hJ0 hAl rfl (fun WC H locs hX hP hD hS hJ => ?_)
  have hR := PR_len0 (PR_sav (B' := 20000) (by decide) hR (okf_yF (tx := (fnL te_T21)) (len := 15) (f := (fnL te_L1)) (by decide) hR.1 hR.2.2.2.2.2.1.1 (by decide +kernel)))
  rw [te_e23] at hX hR
  replace hX : XS G q0 (fnL te_L3) (fnL L0) (rgS ff1 1 (fnL te_L1)) 0 2 0 (fnL te_T21) (nI 0) WC := hX
  replace hR : PR 20000 (fnL te_L3) (fnL L0) (rgS ff1 1 (fnL te_L1)) 0 2 0 (fnL te_T21) (nI 0) := hR
  obtain ⟨ff2, hff2⟩ : ∃ F, F = rgS ff1 1 (fnL te_L1) := ⟨_, rfl⟩
  rw [← hff2] at hX hR
  refine tI (y := nI 5) (by decide +kernel) ?_
  refine lv_iconst (v := nI 5) hx hb dL_texts_360 (by decide +kernel) ?_
  refine lv_icmp_ne (tgt := 439) hx hb dL_texts_361 (by decide) (fun h => absurd h (by decide +kernel)) (fun _ => ?_)
  refine lv_aload_n hx hb dL_texts_364 rfl (lv_at hl 0 rfl) ?_
  refine lv_iconst (v := nI 0) hx hb dL_texts_365 (by decide +kernel) ?_
  refine cx0 (st1 := [.int (fCnt (fnL te_L3) 2 0)]) (va_runV (As := [.int (nI 0)]) (rest := []) ⟨hx, hb, hml, hown, hts⟩ (CX_count_ok l G hX hR (by decide) 0 (by decide +kernel)) (cwV 1 hts gL_texts_X5_count rfl rfl rfl (by decide +kernel) ⟨Nat.le_of_ble_eq_true rfl, Nat.le_of_ble_eq_true rfl⟩) (PJ.preV hE hJ.jx (xs_recv hE.1 hX (P_pre hP)) ⟨P_pre hP, D_tr (D_pre hD)⟩) rfl rfl hl.1 rfl (lv_room (Nat.le_of_ble_eq_true rfl)) dL_texts_366 ⟨Nat.le_of_ble_eq_true rfl, Nat.le_of_ble_eq_true rfl⟩) hP hD hS hJ0 hAl rfl (fun WC H locs hX hP hD hS hJ => ?_)
  refine tI (y := nI 30) (by decide +kernel) ?_
  refine lv_bipush (v := nI 30) hx hb dL_texts_369 (by decide +kernel) ?_
  refine lv_icmp_ne (tgt := 439) hx hb dL_texts_371 (by decide) (fun h => absurd h (by decide +kernel)) (fun _ => ?_)
  refine lv_aload_n hx hb dL_texts_374 rfl (lv_at hl 0 rfl) ?_
  refine lv_iconst (v := nI 1) hx hb dL_texts_375 (by decide +kernel) ?_
  refine cx0 (st1 := [.int (fCnt (fnL te_L3) 2 1)]) (va_runV (As := [.int (nI 1)]) (rest := []) ⟨hx, hb, hml, hown, hts⟩ (CX_count_ok l G hX hR (by decide) 1 (by decide +kernel)) (cwV 1 hts gL_texts_X5_count rfl rfl rfl (by decide +kernel) ⟨Nat.le_of_ble_eq_true rfl, Nat.le_of_ble_eq_true rfl⟩) (PJ.preV hE hJ.jx (xs_recv hE.1 hX (P_pre hP)) ⟨P_pre hP, D_tr (D_pre hD)⟩) rfl rfl hl.1 rfl (lv_room (Nat.le_of_ble_eq_true rfl)) dL_texts_376 ⟨Nat.le_of_ble_eq_true rfl, Nat.le_of_ble_eq_true rfl⟩) hP hD hS hJ0 hAl rfl (fun WC H locs hX hP hD hS hJ => ?_)
  refine tI (y := nI 1) (by decide +kernel) ?_
  refine lv_iconst (v := nI 1) hx hb dL_texts_379 (by decide +kernel) ?_
  refine lv_icmp_ne (tgt := 439) hx hb dL_texts_380 (by decide) (fun h => absurd h (by decide +kernel)) (fun _ => ?_)
  refine lv_aload_n hx hb dL_texts_383 rfl (lv_at hl 0 rfl) ?_
  refine lv_bipush (v := nI 7) hx hb dL_texts_384 (by decide +kernel) ?_
  refine cx0 (st1 := [.int (fCnt (fnL te_L3) 2 7)]) (va_runV (As := [.int (nI 7)]) (rest := []) ⟨hx, hb, hml, hown, hts⟩ (CX_count_ok l G hX hR (by decide) 7 (by decide +kernel)) (cwV 1 hts gL_texts_X5_count rfl rfl rfl (by decide +kernel) ⟨Nat.le_of_ble_eq_true rfl, Nat.le_of_ble_eq_true rfl⟩) (PJ.preV hE hJ.jx (xs_recv hE.1 hX (P_pre hP)) ⟨P_pre hP, D_tr (D_pre hD)⟩) rfl rfl hl.1 rfl (lv_room (Nat.le_of_ble_eq_true rfl)) dL_texts_386 ⟨Nat.le_of_ble_eq_true rfl, Nat.le_of_ble_eq_true rfl⟩) hP hD hS hJ0 hAl rfl (fun WC H locs hX hP hD hS hJ => ?_)
  refine tI (y := nI 35) (by decide +kernel) ?_
  refine lv_bipush (v := nI 35) hx hb dL_texts_389 (by decide +kernel) ?_
  refine lv_icmp_ne (tgt := 439) hx hb dL_texts_391 (by decide) (fun h => absurd h (by decide +kernel)) (fun _ => ?_)
  refine lv_aload_n hx hb dL_texts_394 rfl (lv_at hl 0 rfl) ?_
  refine lv_iconst (v := nI 1) hx hb dL_texts_395 (by decide +kernel) ?_
  refine lv_iconst (v := nI 0) hx hb dL_texts_396 (by decide +kernel) ?_
  refine cx0 (st1 := [.int ((fnL te_L3) (((57 + (11 * 1)) + 1) + 0))]) (va_runV (As := [.int (nI 1), .int (nI 0)]) (rest := []) ⟨hx, hb, hml, hown, hts⟩ (CX_waiting_in l G hX hR (by decide) 1 0 (by decide +kernel) (by decide +kernel) (by decide +kernel)) (cwV 2 hts gL_texts_X5_waiting rfl rfl rfl (by decide +kernel) ⟨Nat.le_of_ble_eq_true rfl, Nat.le_of_ble_eq_true rfl⟩) (PJ.preV hE hJ.jx (xs_recv hE.1 hX (P_pre hP)) ⟨P_pre hP, D_tr (D_pre hD)⟩) rfl rfl hl.1 rfl (lv_room (Nat.le_of_ble_eq_true rfl)) dL_texts_397 ⟨Nat.le_of_ble_eq_true rfl, Nat.le_of_ble_eq_true rfl⟩) hP hD hS hJ0 hAl rfl (fun WC H locs hX hP hD hS hJ => ?_)
  refine tI (y := nI 3) (by decide +kernel) ?_
  refine lv_iconst (v := nI 3) hx hb dL_texts_400 (by decide +kernel) ?_
  refine lv_icmp_ne (tgt := 439) hx hb dL_texts_401 (by decide) (fun h => absurd h (by decide +kernel)) (fun _ => ?_)
  refine lv_aload_n hx hb dL_texts_404 rfl (lv_at hl 0 rfl) ?_
  refine lv_bipush (v := nI 11) hx hb dL_texts_405 (by decide +kernel) ?_
  refine cx0 (st1 := [.int (fCnt (fnL te_L3) 2 11)]) (va_runV (As := [.int (nI 11)]) (rest := []) ⟨hx, hb, hml, hown, hts⟩ (CX_count_ok l G hX hR (by decide) 11 (by decide +kernel)) (cwV 1 hts gL_texts_X5_count rfl rfl rfl (by decide +kernel) ⟨Nat.le_of_ble_eq_true rfl, Nat.le_of_ble_eq_true rfl⟩) (PJ.preV hE hJ.jx (xs_recv hE.1 hX (P_pre hP)) ⟨P_pre hP, D_tr (D_pre hD)⟩) rfl rfl hl.1 rfl (lv_room (Nat.le_of_ble_eq_true rfl)) dL_texts_407 ⟨Nat.le_of_ble_eq_true rfl, Nat.le_of_ble_eq_true rfl⟩) hP hD hS hJ0 hAl rfl (fun WC H locs hX hP hD hS hJ => ?_)
  refine tI (y := nI 1) (by decide +kernel) ?_
  refine lv_iconst (v := nI 1) hx hb dL_texts_410 (by decide +kernel) ?_
  refine lv_icmp_ne (tgt := 439) hx hb dL_texts_411 (by decide) (fun h => absurd h (by decide +kernel)) (fun _ => ?_)
  refine lv_aload_n hx hb dL_texts_414 rfl (lv_at hl 0 rfl) ?_
  refine cx0 (st1 := [.int (nI (2 - 1))]) (va_runV (As := []) (rest := []) ⟨hx, hb, hml, hown, hts⟩ (CX_undo_ok l G hX hR (by decide) (by decide +kernel)) (cwV 0 hts gL_texts_X5_undo rfl rfl rfl (by decide +kernel) ⟨Nat.le_of_ble_eq_true rfl, Nat.le_of_ble_eq_true rfl⟩) (PJ.preV hE hJ.jx (xs_recv hE.1 hX (P_pre hP)) ⟨P_pre hP, D_tr (D_pre hD)⟩) rfl rfl hl.1 rfl (lv_room (Nat.le_of_ble_eq_true rfl)) dL_texts_415 ⟨Nat.le_of_ble_eq_true rfl, Nat.le_of_ble_eq_true rfl⟩) hP hD hS hJ0 hAl rfl (fun WC H locs hX hP hD hS hJ => ?_)
  have e9 : ff2 (hBk 0 2) = (fnL te_L1) := by rw [hff2]; rfl
  have hR := PR_sz (z := 1) (by decide) (PR_f hR (e9 ▸ hR.2.2.1 (hBk 0 2) (by decide)))
  rw [e9] at hX
  replace hX : XS G q0 (fnL te_L1) (fnL L0) ff2 0 1 0 (fnL te_T21) (nI 0) WC := hX
  replace hR : PR 20000 (fnL te_L1) (fnL L0) ff2 0 1 0 (fnL te_T21) (nI 0) := hR
  refine tI (y := nI 1) (by decide +kernel) ?_
  refine lv_iconst (v := nI 1) hx hb dL_texts_418 (by decide +kernel) ?_
  refine lv_icmp_ne (tgt := 439) hx hb dL_texts_419 (by decide) (fun h => absurd h (by decide +kernel)) (fun _ => ?_)
  refine lv_aload_n hx hb dL_texts_422 rfl (lv_at hl 0 rfl) ?_
  refine lv_iconst (v := nI 3) hx hb dL_texts_423 (by decide +kernel) ?_
  refine cx0 (st1 := [.int (fCnt (fnL te_L1) 1 3)]) (va_runV (As := [.int (nI 3)]) (rest := []) ⟨hx, hb, hml, hown, hts⟩ (CX_count_ok l G hX hR (by decide) 3 (by decide +kernel)) (cwV 1 hts gL_texts_X5_count rfl rfl rfl (by decide +kernel) ⟨Nat.le_of_ble_eq_true rfl, Nat.le_of_ble_eq_true rfl⟩) (PJ.preV hE hJ.jx (xs_recv hE.1 hX (P_pre hP)) ⟨P_pre hP, D_tr (D_pre hD)⟩) rfl rfl hl.1 rfl (lv_room (Nat.le_of_ble_eq_true rfl)) dL_texts_424 ⟨Nat.le_of_ble_eq_true rfl, Nat.le_of_ble_eq_true rfl⟩) hP hD hS hJ0 hAl rfl (fun WC H locs hX hP hD hS hJ => ?_)
  refine tI (y := nI 20) (by decide +kernel) ?_
  refine lv_bipush (v := nI 20) hx hb dL_texts_427 (by decide +kernel) ?_
  refine lv_icmp_ne (tgt := 439) hx hb dL_texts_429 (by decide) (fun h => absurd h (by decide +kernel)) (fun _ => ?_)
  refine lv_aload_n hx hb dL_texts_432 rfl (lv_at hl 0 rfl) ?_
  refine cx0 (st1 := [.int (nI (1 - 1))]) (va_runV (As := []) (rest := []) ⟨hx, hb, hml, hown, hts⟩ (CX_undo_ok l G hX hR (by decide) (by decide +kernel)) (cwV 0 hts gL_texts_X5_undo rfl rfl rfl (by decide +kernel) ⟨Nat.le_of_ble_eq_true rfl, Nat.le_of_ble_eq_true rfl⟩) (PJ.preV hE hJ.jx (xs_recv hE.1 hX (P_pre hP)) ⟨P_pre hP, D_tr (D_pre hD)⟩) rfl rfl hl.1 rfl (lv_room (Nat.le_of_ble_eq_true rfl)) dL_texts_433 ⟨Nat.le_of_ble_eq_true rfl, Nat.le_of_ble_eq_true rfl⟩) hP hD hS hJ0 hAl rfl (fun WC H locs hX hP hD hS hJ => ?_)
  have e9 : ff2 (hBk 0 1) = (fnL L0) := by rw [hff2, hff1]; rfl
  have hR := PR_sz (z := 0) (by decide) (PR_f hR (e9 ▸ hR.2.2.1 (hBk 0 1) (by decide)))
  rw [e9] at hX
  replace hX : XS G q0 (fnL L0) (fnL L0) ff2 0 0 0 (fnL te_T21) (nI 0) WC := hX
  replace hR : PR 20000 (fnL L0) (fnL L0) ff2 0 0 0 (fnL te_T21) (nI 0) := hR
  refine tI (y := nI 0) (by decide +kernel) ?_
  refine lv_if_eq (tgt := 441) hx hb dL_texts_436 (by decide) (fun _ => ?_) (fun h => absurd h (by decide +kernel))
  exact te_s4 hlt hL9 hX hR hP hD hS hl
set_option maxHeartbeats 8000000 in
set_option maxRecDepth 100000 in
theorem te_s2 {p : Program} {l : Launch} {e : Env} {s : State} {m : MethodId} {below : List Frame} {meth : Method} {c : Code} {G : eG} {lo : Nat} (hlt : l.stackTraces = false) (hL : LC cL_texts 2 wsL_texts p s m meth c ([] : List Value).toArray G lo) {q0 : Nat} {WC : va_W} {H : Heap} {locs : List Loc} {ls : Array Slot} (hX : XS G q0 (fnL L0) (fnL L0) (fun _ => fnL L0) 0 0 6 (fnL te_T14) (nI 0) WC) (hR : PR 0 (fnL L0) (fnL L0) (fun _ => fnL L0) 0 0 6 (fnL te_T14) (nI 0)) (hP : va_P G.1 vwCl (WC ++ []) H) (hD : va_D (AA s) (WC ++ [])) (hS : va_S (AA s) s.heap H locs) (hl : lv_has ls 2 [(0, .ref q0)]) : W p l e ({ frames := 8, cells := 162, slots := 1336, locals := 205 }) s m ([] : List Value).toArray below meth c H locs 158 1312 (MQ below (MV (some (.int (nI 1))) (fun _ => True) (AA s)) ([] : List Value).toArray s 162 1336 (AA s)) (F0 m 180 ls []) := by
  have hL9 := hL
  obtain ⟨hx, hb, hml, hown, hts, hE, hJ0, hF0, hr, hlocks⟩ := hL
  have hAl : ∀ q, AA s q → lo ≤ q := fun q h => Nat.le_trans hJ0.1 h
  have hA : ∀ q : Nat, s.heap.size ≤ q → AA s q := fun _ h => h
  have hJ : JB lo s _ := hJ0.S hAl hS
  refine lv_aload_n hx hb dL_texts_180 rfl (lv_at hl 0 rfl) ?_
  refine lv_ldc2 (v := 6369339) hx hb hown (hts (.constantLong RL 177 (6369339)) (by decide +kernel)) dL_texts_181 ?_
  refine lv_lconst (v := 0) hx hb dL_texts_184 (by decide +kernel) ?_
  refine lv_iconst (v := nI 2) hx hb dL_texts_185 (by decide +kernel) ?_
  refine cx0 (st1 := [.int (nI 1)]) (va_runS (As := [.ref q0, .long 6369339, .long 0, .int (nI 2)]) (rest := []) ⟨hx, hb, hml, hown, hts⟩ (K_isError l G hX hR (by decide) 6369339 0 [0, 0, 0, 0, 0, 97, 48, 59] [0, 0, 0, 0, 0, 0, 0, 0] 2 te_w15 te_w1 (by rw [te_e14, te_e14l]; decide +kernel) (by decide)) (va_cwS 4 hts gL_texts_L_isError rfl rfl rfl (by decide +kernel) ⟨Nat.le_of_ble_eq_true rfl, Nat.le_of_ble_eq_true rfl⟩) (PK.preS hE hJ ⟨P_pre hP, D_al hAl (D_pre hD)⟩) rfl rfl hl.1 rfl (lv_room (Nat.le_of_ble_eq_true rfl)) dL_texts_186 ⟨Nat.le_of_ble_eq_true rfl, Nat.le_of_ble_eq_true rfl⟩) hP hD hS hJ0 hAl rfl (fun WC H locs hX hP hD hS hJ => ?_)
  have hR := PR_ty te_w1 (by decide +kernel) (PR_ty te_w15 (by decide) (PR_len0 hR))
  rw [te_e14, te_e14l] at hX hR
  replace hX : XS G q0 (fnL L0) (fnL L0) (fun _ => fnL L0) 0 0 3 (fnL te_T15) (nI 0) WC := hX
  replace hR : PR 0 (fnL L0) (fnL L0) (fun _ => fnL L0) 0 0 3 (fnL te_T15) (nI 0) := hR
  refine lv_if_eq (tgt := 227) hx hb dL_texts_189 (by decide) (fun h => absurd h (by decide +kernel)) (fun _ => ?_)
  refine lv_aload_n hx hb dL_texts_192 rfl (lv_at hl 0 rfl) ?_
  refine lv_ldc2 (v := 417437725048) hx hb hown (hts (.constantLong RL 179 (417437725048)) (by decide +kernel)) dL_texts_193 ?_
  refine lv_lconst (v := 0) hx hb dL_texts_196 (by decide +kernel) ?_
  refine lv_iconst (v := nI 4) hx hb dL_texts_197 (by decide +kernel) ?_
  refine cx0 (st1 := [.int (nI 1)]) (va_runS (As := [.ref q0, .long 417437725048, .long 0, .int (nI 4)]) (rest := []) ⟨hx, hb, hml, hown, hts⟩ (K_isError l G hX hR (by decide) 417437725048 0 [0, 0, 0, 97, 49, 58, 49, 120] [0, 0, 0, 0, 0, 0, 0, 0] 4 te_w16 te_w1 (by rw [te_e15, te_e15l]; decide +kernel) (by decide)) (va_cwS 4 hts gL_texts_L_isError rfl rfl rfl (by decide +kernel) ⟨Nat.le_of_ble_eq_true rfl, Nat.le_of_ble_eq_true rfl⟩) (PK.preS hE hJ ⟨P_pre hP, D_al hAl (D_pre hD)⟩) rfl rfl hl.1 rfl (lv_room (Nat.le_of_ble_eq_true rfl)) dL_texts_198 ⟨Nat.le_of_ble_eq_true rfl, Nat.le_of_ble_eq_true rfl⟩) hP hD hS hJ0 hAl rfl (fun WC H locs hX hP hD hS hJ => ?_)
  have hR := PR_ty te_w1 (by decide +kernel) (PR_ty te_w16 (by decide) (PR_len0 hR))
  rw [te_e15, te_e15l] at hX hR
  replace hX : XS G q0 (fnL L0) (fnL L0) (fun _ => fnL L0) 0 0 5 (fnL te_T16) (nI 0) WC := hX
  replace hR : PR 0 (fnL L0) (fnL L0) (fun _ => fnL L0) 0 0 5 (fnL te_T16) (nI 0) := hR
  refine lv_if_eq (tgt := 227) hx hb dL_texts_201 (by decide) (fun h => absurd h (by decide +kernel)) (fun _ => ?_)
  refine lv_aload_n hx hb dL_texts_204 rfl (lv_at hl 0 rfl) ?_
  refine lv_lconst (v := 0) hx hb dL_texts_205 (by decide +kernel) ?_
  refine lv_lconst (v := 0) hx hb dL_texts_206 (by decide +kernel) ?_
  refine lv_iconst (v := nI 0) hx hb dL_texts_207 (by decide +kernel) ?_
  refine cx0 (st1 := [.int (nI 1)]) (va_runS (As := [.ref q0, .long 0, .long 0, .int (nI 0)]) (rest := []) ⟨hx, hb, hml, hown, hts⟩ (K_isError l G hX hR (by decide) 0 0 [0, 0, 0, 0, 0, 0, 0, 0] [0, 0, 0, 0, 0, 0, 0, 0] 0 te_w1 te_w1 (by rw [te_e16, te_e16l]; decide +kernel) (by decide)) (va_cwS 4 hts gL_texts_L_isError rfl rfl rfl (by decide +kernel) ⟨Nat.le_of_ble_eq_true rfl, Nat.le_of_ble_eq_true rfl⟩) (PK.preS hE hJ ⟨P_pre hP, D_al hAl (D_pre hD)⟩) rfl rfl hl.1 rfl (lv_room (Nat.le_of_ble_eq_true rfl)) dL_texts_208 ⟨Nat.le_of_ble_eq_true rfl, Nat.le_of_ble_eq_true rfl⟩) hP hD hS hJ0 hAl rfl (fun WC H locs hX hP hD hS hJ => ?_)
  have hR := PR_ty te_w1 (by decide +kernel) (PR_ty te_w1 (by decide) (PR_len0 hR))
  rw [te_e16, te_e16l] at hX hR
  replace hX : XS G q0 (fnL L0) (fnL L0) (fun _ => fnL L0) 0 0 0 (fnL te_T16) (nI 0) WC := hX
  replace hR : PR 0 (fnL L0) (fnL L0) (fun _ => fnL L0) 0 0 0 (fnL te_T16) (nI 0) := hR
  refine lv_if_eq (tgt := 227) hx hb dL_texts_211 (by decide) (fun h => absurd h (by decide +kernel)) (fun _ => ?_)
  refine lv_aload_n hx hb dL_texts_214 rfl (lv_at hl 0 rfl) ?_
  refine lv_ldc2 (v := 7003161403649128243) hx hb hown (hts (.constantLong RL 181 (7003161403649128243)) (by decide +kernel)) dL_texts_215 ?_
  refine lv_lconst (v := 0) hx hb dL_texts_218 (by decide +kernel) ?_
  refine lv_bipush (v := nI 8) hx hb dL_texts_219 (by decide +kernel) ?_
  refine cx0 (st1 := [.int (nI 1)]) (va_runS (As := [.ref q0, .long 7003161403649128243, .long 0, .int (nI 8)]) (rest := []) ⟨hx, hb, hml, hown, hts⟩ (K_isError l G hX hR (by decide) 7003161403649128243 0 [97, 48, 58, 49, 57, 59, 119, 51] [0, 0, 0, 0, 0, 0, 0, 0] 8 te_w17 te_w1 (by rw [te_e17, te_e17l]; decide +kernel) (by decide)) (va_cwS 4 hts gL_texts_L_isError rfl rfl rfl (by decide +kernel) ⟨Nat.le_of_ble_eq_true rfl, Nat.le_of_ble_eq_true rfl⟩) (PK.preS hE hJ ⟨P_pre hP, D_al hAl (D_pre hD)⟩) rfl rfl hl.1 rfl (lv_room (Nat.le_of_ble_eq_true rfl)) dL_texts_221 ⟨Nat.le_of_ble_eq_true rfl, Nat.le_of_ble_eq_true rfl⟩) hP hD hS hJ0 hAl rfl (fun WC H locs hX hP hD hS hJ => ?_)
  have hR := PR_ty te_w1 (by decide +kernel) (PR_ty te_w17 (by decide) (PR_len0 hR))
  rw [te_e17, te_e17l] at hX hR
  replace hX : XS G q0 (fnL L0) (fnL L0) (fun _ => fnL L0) 0 0 8 (fnL te_T17) (nI 0) WC := hX
  replace hR : PR 0 (fnL L0) (fnL L0) (fun _ => fnL L0) 0 0 8 (fnL te_T17) (nI 0) := hR
  refine lv_if_ne (tgt := 229) hx hb dL_texts_224 (by decide) (fun _ => ?_) (fun h => absurd h (by decide +kernel))
  refine lv_aload_n hx hb dL_texts_229 rfl (lv_at hl 0 rfl) ?_
  refine cx0 (st1 := [.int (nI 8)]) (va_runV (As := []) (rest := []) ⟨hx, hb, hml, hown, hts⟩ (CX_clearBuffer l G hX hR (by decide) ) (cwV 0 hts gL_texts_X5_clearBuffer rfl rfl rfl (by decide +kernel) ⟨Nat.le_of_ble_eq_true rfl, Nat.le_of_ble_eq_true rfl⟩) (PJ.preV hE hJ.jx (xs_recv hE.1 hX (P_pre hP)) ⟨P_pre hP, D_tr (D_pre hD)⟩) rfl rfl hl.1 rfl (lv_room (Nat.le_of_ble_eq_true rfl)) dL_texts_230 ⟨Nat.le_of_ble_eq_true rfl, Nat.le_of_ble_eq_true rfl⟩) hP hD hS hJ0 hAl rfl (fun WC H locs hX hP hD hS hJ => ?_)
  have hR := PR_len0 hR
  replace hX : XS G q0 (fnL L0) (fnL L0) (fun _ => fnL L0) 0 0 0 (fnL te_T17) (nI 0) WC := hX
  replace hR : PR 0 (fnL L0) (fnL L0) (fun _ => fnL L0) 0 0 0 (fnL te_T17) (nI 0) := hR
  refine tI (y := nI 8) (by decide +kernel) ?_
  refine lv_bipush (v := nI 8) hx hb dL_texts_233 (by decide +kernel) ?_
  refine lv_icmp_ne (tgt := 439) hx hb dL_texts_235 (by decide) (fun h => absurd h (by decide +kernel)) (fun _ => ?_)
  refine lv_aload_n hx hb dL_texts_238 rfl (lv_at hl 0 rfl) ?_
  refine lv_bipush (v := nI 9) hx hb dL_texts_239 (by decide +kernel) ?_
  refine lv_iconst (v := nI 0) hx hb dL_texts_241 (by decide +kernel) ?_
  refine lv_iconst (v := nI 0) hx hb dL_texts_242 (by decide +kernel) ?_
  refine cxc (st1 := [.int (-12)]) (vx_runSW (As := [.ref q0, .int (nI 9), .int (nI 0), .int (nI 0)]) (rest := []) ⟨hx, hb, hml, hown, hts⟩ (CC_obey_e1 l hlt G hX hR (by decide) (by decide +kernel) (nI 0) (nI 0)) (vx_cwSW 4 hts gL_texts_L_call rfl rfl rfl (by decide +kernel) ⟨Nat.le_of_ble_eq_true rfl, Nat.le_of_ble_eq_true rfl⟩) (PK.preS hE hJ ⟨P_pre hP, D_al hAl (D_pre hD)⟩) rfl rfl hl.1 rfl (lv_room (Nat.le_of_ble_eq_true rfl)) dL_texts_243 ⟨Nat.le_of_ble_eq_true rfl, Nat.le_of_ble_eq_true rfl⟩) hP hD hS hJ0 hAl rfl (fun WC H locs hX hP hD hS hJ => ?_)
  refine lv_bipush (v := -12) hx hb dL_texts_246 (by decide +kernel) ?_
  refine lv_icmp_ne (tgt := 439) hx hb dL_texts_248 (by decide) (fun h => absurd h (by decide +kernel)) (fun _ => ?_)
  refine lv_aload_n hx hb dL_texts_251 rfl (lv_at hl 0 rfl) ?_
  refine lv_ldc2 (v := 106859762692155) hx hb hown (hts (.constantLong RL 183 (106859762692155)) (by decide +kernel)) dL_texts_252 ?_
  refine cx0 (st1 := [.int (nI 1)]) (va_runS (As := [.ref q0, .long 106859762692155]) (rest := []) ⟨hx, hb, hml, hown, hts⟩ (K_types l G hX hR (by decide) 106859762692155 [0, 0, 97, 48, 58, 50, 48, 59] te_w18 (by decide)) (va_cwS 2 hts gL_texts_L_types rfl rfl rfl (by decide +kernel) ⟨Nat.le_of_ble_eq_true rfl, Nat.le_of_ble_eq_true rfl⟩) (PK.preS hE hJ ⟨P_pre hP, D_al hAl (D_pre hD)⟩) rfl rfl hl.1 rfl (lv_room (Nat.le_of_ble_eq_true rfl)) dL_texts_255 ⟨Nat.le_of_ble_eq_true rfl, Nat.le_of_ble_eq_true rfl⟩) hP hD hS hJ0 hAl rfl (fun WC H locs hX hP hD hS hJ => ?_)
  have hR := PR_ty te_w18 (by decide) hR
  rw [te_e18, te_e18l] at hX hR
  replace hX : XS G q0 (fnL L0) (fnL L0) (fun _ => fnL L0) 0 0 6 (fnL te_T18) (nI 0) WC := hX
  replace hR : PR 0 (fnL L0) (fnL L0) (fun _ => fnL L0) 0 0 6 (fnL te_T18) (nI 0) := hR
  refine lv_if_eq (tgt := 439) hx hb dL_texts_258 (by decide) (fun h => absurd h (by decide +kernel)) (fun _ => ?_)
  refine lv_aload_n hx hb dL_texts_261 rfl (lv_at hl 0 rfl) ?_
  refine lv_bipush (v := nI 9) hx hb dL_texts_262 (by decide +kernel) ?_
  refine lv_iconst (v := nI 0) hx hb dL_texts_264 (by decide +kernel) ?_
  refine lv_iconst (v := nI 0) hx hb dL_texts_265 (by decide +kernel) ?_
  refine cxc (st1 := [.int (-12)]) (vx_runSW (As := [.ref q0, .int (nI 9), .int (nI 0), .int (nI 0)]) (rest := []) ⟨hx, hb, hml, hown, hts⟩ (CC_obey_e1 l hlt G hX hR (by decide) (by decide +kernel) (nI 0) (nI 0)) (vx_cwSW 4 hts gL_texts_L_call rfl rfl rfl (by decide +kernel) ⟨Nat.le_of_ble_eq_true rfl, Nat.le_of_ble_eq_true rfl⟩) (PK.preS hE hJ ⟨P_pre hP, D_al hAl (D_pre hD)⟩) rfl rfl hl.1 rfl (lv_room (Nat.le_of_ble_eq_true rfl)) dL_texts_266 ⟨Nat.le_of_ble_eq_true rfl, Nat.le_of_ble_eq_true rfl⟩) hP hD hS hJ0 hAl rfl (fun WC H locs hX hP hD hS hJ => ?_)
  refine lv_bipush (v := -12) hx hb dL_texts_269 (by decide +kernel) ?_
  refine lv_icmp_ne (tgt := 439) hx hb dL_texts_271 (by decide) (fun h => absurd h (by decide +kernel)) (fun _ => ?_)
  refine lv_aload_n hx hb dL_texts_274 rfl (lv_at hl 0 rfl) ?_
  refine lv_ldc2 (v := 30452329261054840) hx hb hown (hts (.constantLong RL 185 (30452329261054840)) (by decide +kernel)) dL_texts_275 ?_
  refine cx0 (st1 := [.int (nI 1)]) (va_runS (As := [.ref q0, .long 30452329261054840]) (rest := []) ⟨hx, hb, hml, hown, hts⟩ (K_types l G hX hR (by decide) 30452329261054840 [0, 108, 48, 59, 108, 48, 59, 120] te_w19 (by decide)) (va_cwS 2 hts gL_texts_L_types rfl rfl rfl (by decide +kernel) ⟨Nat.le_of_ble_eq_true rfl, Nat.le_of_ble_eq_true rfl⟩) (PK.preS hE hJ ⟨P_pre hP, D_al hAl (D_pre hD)⟩) rfl rfl hl.1 rfl (lv_room (Nat.le_of_ble_eq_true rfl)) dL_texts_278 ⟨Nat.le_of_ble_eq_true rfl, Nat.le_of_ble_eq_true rfl⟩) hP hD hS hJ0 hAl rfl (fun WC H locs hX hP hD hS hJ => ?_)
  have hR := PR_ty te_w19 (by decide) hR
  rw [te_e19, te_e19l] at hX hR
  replace hX : XS G q0 (fnL L0) (fnL L0) (fun _ => fnL L0) 0 0 13 (fnL te_T19) (nI 0) WC := hX
  replace hR : PR 0 (fnL L0) (fnL L0) (fun _ => fnL L0) 0 0 13 (fnL te_T19) (nI 0) := hR
  refine lv_if_eq (tgt := 439) hx hb dL_texts_281 (by decide) (fun h => absurd h (by decide +kernel)) (fun _ => ?_)
  exact te_s3 hlt hL9 hX hR hP hD hS hl
set_option maxHeartbeats 8000000 in
set_option maxRecDepth 100000 in
theorem te_s1 {p : Program} {l : Launch} {e : Env} {s : State} {m : MethodId} {below : List Frame} {meth : Method} {c : Code} {G : eG} {lo : Nat} (hlt : l.stackTraces = false) (hL : LC cL_texts 2 wsL_texts p s m meth c ([] : List Value).toArray G lo) {q0 : Nat} {WC : va_W} {H : Heap} {locs : List Loc} {ls : Array Slot} (hX : XS G q0 (fnL L0) (fnL L0) (fun _ => fnL L0) 0 0 2 (fnL te_T7) (nI 0) WC) (hR : PR 0 (fnL L0) (fnL L0) (fun _ => fnL L0) 0 0 2 (fnL te_T7) (nI 0)) (hP : va_P G.1 vwCl (WC ++ []) H) (hD : va_D (AA s) (WC ++ [])) (hS : va_S (AA s) s.heap H locs) (hl : lv_has ls 2 [(0, .ref q0)]) : W p l e ({ frames := 8, cells := 162, slots := 1336, locals := 205 }) s m ([] : List Value).toArray below meth c H locs 158 1312 (MQ below (MV (some (.int (nI 1))) (fun _ => True) (AA s)) ([] : List Value).toArray s 162 1336 (AA s)) (F0 m 92 ls []) := by
  have hL9 := hL
  obtain ⟨hx, hb, hml, hown, hts, hE, hJ0, hF0, hr, hlocks⟩ := hL
  have hAl : ∀ q, AA s q → lo ≤ q := fun q h => Nat.le_trans hJ0.1 h
  have hA : ∀ q : Nat, s.heap.size ≤ q → AA s q := fun _ h => h
  have hJ : JB lo s _ := hJ0.S hAl hS
  refine lv_aload_n hx hb dL_texts_92 rfl (lv_at hl 0 rfl) ?_
  refine lv_ldc2 (v := 30512) hx hb hown (hts (.constantLong RL 163 (30512)) (by decide +kernel)) dL_texts_93 ?_
  refine lv_lconst (v := 0) hx hb dL_texts_96 (by decide +kernel) ?_
  refine lv_iconst (v := nI 1) hx hb dL_texts_97 (by decide +kernel) ?_
  refine cx0 (st1 := [.int (nI 1)]) (va_runS (As := [.ref q0, .long 30512, .long 0, .int (nI 1)]) (rest := []) ⟨hx, hb, hml, hown, hts⟩ (K_isError l G hX hR (by decide) 30512 0 [0, 0, 0, 0, 0, 0, 119, 48] [0, 0, 0, 0, 0, 0, 0, 0] 1 te_w8 te_w1 (by rw [te_e7, te_e7l]; decide +kernel) (by decide)) (va_cwS 4 hts gL_texts_L_isError rfl rfl rfl (by decide +kernel) ⟨Nat.le_of_ble_eq_true rfl, Nat.le_of_ble_eq_true rfl⟩) (PK.preS hE hJ ⟨P_pre hP, D_al hAl (D_pre hD)⟩) rfl rfl hl.1 rfl (lv_room (Nat.le_of_ble_eq_true rfl)) dL_texts_98 ⟨Nat.le_of_ble_eq_true rfl, Nat.le_of_ble_eq_true rfl⟩) hP hD hS hJ0 hAl rfl (fun WC H locs hX hP hD hS hJ => ?_)
  have hR := PR_ty te_w1 (by decide +kernel) (PR_ty te_w8 (by decide) (PR_len0 hR))
  rw [te_e7, te_e7l] at hX hR
  replace hX : XS G q0 (fnL L0) (fnL L0) (fun _ => fnL L0) 0 0 2 (fnL te_T8) (nI 0) WC := hX
  replace hR : PR 0 (fnL L0) (fnL L0) (fun _ => fnL L0) 0 0 2 (fnL te_T8) (nI 0) := hR
  refine lv_if_eq (tgt := 116) hx hb dL_texts_101 (by decide) (fun h => absurd h (by decide +kernel)) (fun _ => ?_)
  refine lv_aload_n hx hb dL_texts_104 rfl (lv_at hl 0 rfl) ?_
  refine lv_ldc2 (v := 30779) hx hb hown (hts (.constantLong RL 165 (30779)) (by decide +kernel)) dL_texts_105 ?_
  refine lv_lconst (v := 0) hx hb dL_texts_108 (by decide +kernel) ?_
  refine lv_iconst (v := nI 2) hx hb dL_texts_109 (by decide +kernel) ?_
  refine cx0 (st1 := [.int (nI 1)]) (va_runS (As := [.ref q0, .long 30779, .long 0, .int (nI 2)]) (rest := []) ⟨hx, hb, hml, hown, hts⟩ (K_isError l G hX hR (by decide) 30779 0 [0, 0, 0, 0, 0, 0, 120, 59] [0, 0, 0, 0, 0, 0, 0, 0] 2 te_w9 te_w1 (by rw [te_e8, te_e8l]; decide +kernel) (by decide)) (va_cwS 4 hts gL_texts_L_isError rfl rfl rfl (by decide +kernel) ⟨Nat.le_of_ble_eq_true rfl, Nat.le_of_ble_eq_true rfl⟩) (PK.preS hE hJ ⟨P_pre hP, D_al hAl (D_pre hD)⟩) rfl rfl hl.1 rfl (lv_room (Nat.le_of_ble_eq_true rfl)) dL_texts_110 ⟨Nat.le_of_ble_eq_true rfl, Nat.le_of_ble_eq_true rfl⟩) hP hD hS hJ0 hAl rfl (fun WC H locs hX hP hD hS hJ => ?_)
  have hR := PR_ty te_w1 (by decide +kernel) (PR_ty te_w9 (by decide) (PR_len0 hR))
  rw [te_e8, te_e8l] at hX hR
  replace hX : XS G q0 (fnL L0) (fnL L0) (fun _ => fnL L0) 0 0 2 (fnL te_T9) (nI 0) WC := hX
  replace hR : PR 0 (fnL L0) (fnL L0) (fun _ => fnL L0) 0 0 2 (fnL te_T9) (nI 0) := hR
  refine lv_if_ne (tgt := 118) hx hb dL_texts_113 (by decide) (fun _ => ?_) (fun h => absurd h (by decide +kernel))
  refine lv_aload_n hx hb dL_texts_118 rfl (lv_at hl 0 rfl) ?_
  refine lv_ldc2 (v := 417437725243) hx hb hown (hts (.constantLong RL 167 (417437725243)) (by decide +kernel)) dL_texts_119 ?_
  refine lv_lconst (v := 0) hx hb dL_texts_122 (by decide +kernel) ?_
  refine lv_iconst (v := nI 5) hx hb dL_texts_123 (by decide +kernel) ?_
  refine cx0 (st1 := [.int (nI 1)]) (va_runS (As := [.ref q0, .long 417437725243, .long 0, .int (nI 5)]) (rest := []) ⟨hx, hb, hml, hown, hts⟩ (K_isError l G hX hR (by decide) 417437725243 0 [0, 0, 0, 97, 49, 58, 50, 59] [0, 0, 0, 0, 0, 0, 0, 0] 5 te_w10 te_w1 (by rw [te_e9, te_e9l]; decide +kernel) (by decide)) (va_cwS 4 hts gL_texts_L_isError rfl rfl rfl (by decide +kernel) ⟨Nat.le_of_ble_eq_true rfl, Nat.le_of_ble_eq_true rfl⟩) (PK.preS hE hJ ⟨P_pre hP, D_al hAl (D_pre hD)⟩) rfl rfl hl.1 rfl (lv_room (Nat.le_of_ble_eq_true rfl)) dL_texts_124 ⟨Nat.le_of_ble_eq_true rfl, Nat.le_of_ble_eq_true rfl⟩) hP hD hS hJ0 hAl rfl (fun WC H locs hX hP hD hS hJ => ?_)
  have hR := PR_ty te_w1 (by decide +kernel) (PR_ty te_w10 (by decide) (PR_len0 hR))
  rw [te_e9, te_e9l] at hX hR
  replace hX : XS G q0 (fnL L0) (fnL L0) (fun _ => fnL L0) 0 0 5 (fnL te_T10) (nI 0) WC := hX
  replace hR : PR 0 (fnL L0) (fnL L0) (fun _ => fnL L0) 0 0 5 (fnL te_T10) (nI 0) := hR
  refine lv_if_eq (tgt := 227) hx hb dL_texts_127 (by decide) (fun h => absurd h (by decide +kernel)) (fun _ => ?_)
  refine lv_aload_n hx hb dL_texts_130 rfl (lv_at hl 0 rfl) ?_
  refine lv_ldc2 (v := 7003161407793097776) hx hb hown (hts (.constantLong RL 169 (7003161407793097776)) (by decide +kernel)) dL_texts_131 ?_
  refine lv_lconst (v := 0) hx hb dL_texts_134 (by decide +kernel) ?_
  refine lv_bipush (v := nI 8) hx hb dL_texts_135 (by decide +kernel) ?_
  refine cx0 (st1 := [.int (nI 1)]) (va_runS (As := [.ref q0, .long 7003161407793097776, .long 0, .int (nI 8)]) (rest := []) ⟨hx, hb, hml, hown, hts⟩ (K_isError l G hX hR (by decide) 7003161407793097776 0 [97, 48, 58, 50, 48, 59, 108, 48] [0, 0, 0, 0, 0, 0, 0, 0] 8 te_w11 te_w1 (by rw [te_e10, te_e10l]; decide +kernel) (by decide)) (va_cwS 4 hts gL_texts_L_isError rfl rfl rfl (by decide +kernel) ⟨Nat.le_of_ble_eq_true rfl, Nat.le_of_ble_eq_true rfl⟩) (PK.preS hE hJ ⟨P_pre hP, D_al hAl (D_pre hD)⟩) rfl rfl hl.1 rfl (lv_room (Nat.le_of_ble_eq_true rfl)) dL_texts_137 ⟨Nat.le_of_ble_eq_true rfl, Nat.le_of_ble_eq_true rfl⟩) hP hD hS hJ0 hAl rfl (fun WC H locs hX hP hD hS hJ => ?_)
  have hR := PR_ty te_w1 (by decide +kernel) (PR_ty te_w11 (by decide) (PR_len0 hR))
  rw [te_e10, te_e10l] at hX hR
  replace hX : XS G q0 (fnL L0) (fnL L0) (fun _ => fnL L0) 0 0 8 (fnL te_T11) (nI 0) WC := hX
  replace hR : PR 0 (fnL L0) (fnL L0) (fun _ => fnL L0) 0 0 8 (fnL te_T11) (nI 0) := hR
  refine lv_if_eq (tgt := 227) hx hb dL_texts_140 (by decide) (fun h => absurd h (by decide +kernel)) (fun _ => ?_)
  refine lv_aload_n hx hb dL_texts_143 rfl (lv_at hl 0 rfl) ?_
  refine lv_ldc2 (v := 121) hx hb hown (hts (.constantLong RL 171 (121)) (by decide +kernel)) dL_texts_144 ?_
  refine lv_lconst (v := 0) hx hb dL_texts_147 (by decide +kernel) ?_
  refine lv_iconst (v := nI 0) hx hb dL_texts_148 (by decide +kernel) ?_
  refine cx0 (st1 := [.int (nI 1)]) (va_runS (As := [.ref q0, .long 121, .long 0, .int (nI 0)]) (rest := []) ⟨hx, hb, hml, hown, hts⟩ (K_isError l G hX hR (by decide) 121 0 [0, 0, 0, 0, 0, 0, 0, 121] [0, 0, 0, 0, 0, 0, 0, 0] 0 te_w12 te_w1 (by rw [te_e11, te_e11l]; decide +kernel) (by decide)) (va_cwS 4 hts gL_texts_L_isError rfl rfl rfl (by decide +kernel) ⟨Nat.le_of_ble_eq_true rfl, Nat.le_of_ble_eq_true rfl⟩) (PK.preS hE hJ ⟨P_pre hP, D_al hAl (D_pre hD)⟩) rfl rfl hl.1 rfl (lv_room (Nat.le_of_ble_eq_true rfl)) dL_texts_149 ⟨Nat.le_of_ble_eq_true rfl, Nat.le_of_ble_eq_true rfl⟩) hP hD hS hJ0 hAl rfl (fun WC H locs hX hP hD hS hJ => ?_)
  have hR := PR_ty te_w1 (by decide +kernel) (PR_ty te_w12 (by decide) (PR_len0 hR))
  rw [te_e11, te_e11l] at hX hR
  replace hX : XS G q0 (fnL L0) (fnL L0) (fun _ => fnL L0) 0 0 1 (fnL te_T12) (nI 0) WC := hX
  replace hR : PR 0 (fnL L0) (fnL L0) (fun _ => fnL L0) 0 0 1 (fnL te_T12) (nI 0) := hR
  refine lv_if_eq (tgt := 227) hx hb dL_texts_152 (by decide) (fun h => absurd h (by decide +kernel)) (fun _ => ?_)
  refine lv_aload_n hx hb dL_texts_155 rfl (lv_at hl 0 rfl) ?_
  refine lv_ldc2 (v := 7682875) hx hb hown (hts (.constantLong RL 173 (7682875)) (by decide +kernel)) dL_texts_156 ?_
  refine lv_lconst (v := 0) hx hb dL_texts_159 (by decide +kernel) ?_
  refine lv_iconst (v := nI 2) hx hb dL_texts_160 (by decide +kernel) ?_
  refine cx0 (st1 := [.int (nI 1)]) (va_runS (As := [.ref q0, .long 7682875, .long 0, .int (nI 2)]) (rest := []) ⟨hx, hb, hml, hown, hts⟩ (K_isError l G hX hR (by decide) 7682875 0 [0, 0, 0, 0, 0, 117, 59, 59] [0, 0, 0, 0, 0, 0, 0, 0] 2 te_w13 te_w1 (by rw [te_e12, te_e12l]; decide +kernel) (by decide)) (va_cwS 4 hts gL_texts_L_isError rfl rfl rfl (by decide +kernel) ⟨Nat.le_of_ble_eq_true rfl, Nat.le_of_ble_eq_true rfl⟩) (PK.preS hE hJ ⟨P_pre hP, D_al hAl (D_pre hD)⟩) rfl rfl hl.1 rfl (lv_room (Nat.le_of_ble_eq_true rfl)) dL_texts_161 ⟨Nat.le_of_ble_eq_true rfl, Nat.le_of_ble_eq_true rfl⟩) hP hD hS hJ0 hAl rfl (fun WC H locs hX hP hD hS hJ => ?_)
  have hR := PR_ty te_w1 (by decide +kernel) (PR_ty te_w13 (by decide) (PR_len0 hR))
  rw [te_e12, te_e12l] at hX hR
  replace hX : XS G q0 (fnL L0) (fnL L0) (fun _ => fnL L0) 0 0 3 (fnL te_T13) (nI 0) WC := hX
  replace hR : PR 0 (fnL L0) (fnL L0) (fun _ => fnL L0) 0 0 3 (fnL te_T13) (nI 0) := hR
  refine lv_if_eq (tgt := 227) hx hb dL_texts_164 (by decide) (fun h => absurd h (by decide +kernel)) (fun _ => ?_)
  refine lv_aload_n hx hb dL_texts_167 rfl (lv_at hl 0 rfl) ?_
  refine lv_ldc2 (v := 131057508377653) hx hb hown (hts (.constantLong RL 175 (131057508377653)) (by decide +kernel)) dL_texts_168 ?_
  refine lv_lconst (v := 0) hx hb dL_texts_171 (by decide +kernel) ?_
  refine lv_bipush (v := nI 6) hx hb dL_texts_172 (by decide +kernel) ?_
  refine cx0 (st1 := [.int (nI 1)]) (va_runS (As := [.ref q0, .long 131057508377653, .long 0, .int (nI 6)]) (rest := []) ⟨hx, hb, hml, hown, hts⟩ (K_isError l G hX hR (by decide) 131057508377653 0 [0, 0, 119, 50, 52, 59, 100, 53] [0, 0, 0, 0, 0, 0, 0, 0] 6 te_w14 te_w1 (by rw [te_e13, te_e13l]; decide +kernel) (by decide)) (va_cwS 4 hts gL_texts_L_isError rfl rfl rfl (by decide +kernel) ⟨Nat.le_of_ble_eq_true rfl, Nat.le_of_ble_eq_true rfl⟩) (PK.preS hE hJ ⟨P_pre hP, D_al hAl (D_pre hD)⟩) rfl rfl hl.1 rfl (lv_room (Nat.le_of_ble_eq_true rfl)) dL_texts_174 ⟨Nat.le_of_ble_eq_true rfl, Nat.le_of_ble_eq_true rfl⟩) hP hD hS hJ0 hAl rfl (fun WC H locs hX hP hD hS hJ => ?_)
  have hR := PR_ty te_w1 (by decide +kernel) (PR_ty te_w14 (by decide) (PR_len0 hR))
  rw [te_e13, te_e13l] at hX hR
  replace hX : XS G q0 (fnL L0) (fnL L0) (fun _ => fnL L0) 0 0 6 (fnL te_T14) (nI 0) WC := hX
  replace hR : PR 0 (fnL L0) (fnL L0) (fun _ => fnL L0) 0 0 6 (fnL te_T14) (nI 0) := hR
  refine lv_if_eq (tgt := 227) hx hb dL_texts_177 (by decide) (fun h => absurd h (by decide +kernel)) (fun _ => ?_)
  exact te_s2 hlt hL9 hX hR hP hD hS hl

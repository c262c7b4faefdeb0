set_option maxHeartbeats 8000000 in
set_option maxRecDepth 100000 in
theorem te_s5 {p : Program} {l : Launch} {e : Env} {s : State} {m : MethodId} {below : List Frame} {meth : Method} {c : Code} {G : eG} {lo : Nat} (hlt : l.stackTraces = false) (hL : LC cL_texts 2 wsL_texts p s m meth c ([] : List Value).toArray G lo) {q0 : Nat} {ff2 : Nat → Nat → Int32} {WC : va_W} {H : Heap} {locs : List Loc} {ls : Array Slot} (hX : XS G q0 (fnL L0) (fnL L0) ff2 0 0 20 (fnL te_T37) (nI 0) WC) (hR : PR 20000 (fnL L0) (fnL L0) ff2 0 0 20 (fnL te_T37) (nI 0)) (hP : va_P G.1 vwCl (WC ++ []) H) (hD : va_D (AA s) (WC ++ [])) (hS : va_S (AA s) s.heap H locs) (hl : lv_has ls 2 [(1, .int (nI 9)), (0, .ref q0)]) : W p l e ({ frames := 8, cells := 162, slots := 1336, locals := 205 }) s m ([] : List Value).toArray below meth c H locs 160 1324 (MQ below (MV (some (.int (nI 1))) (fun _ => True) (AA s)) ([] : List Value).toArray s 162 1336 (AA s)) (F0 m 479 ls []) := by
  have hL9 := hL
  obtain ⟨hx, hb, hml, hown, hts, hE, hJ0, hF0, hr, hlocks⟩ := hL
  have hAl : ∀ q, AA s q → lo ≤ q := fun q h => Nat.le_trans hJ0.1 h
  have hA : ∀ q : Nat, s.heap.size ≤ q → AA s q := fun _ h => h
  have hJ : JB lo s _ := hJ0.S hAl hS
  refine lv_iinc (v := nI 10) (lv' := [(1, .int (nI 10)), (0, .ref q0)]) hx hb dL_texts_479 hl (k := 0) rfl (by decide +kernel) (by decide) rfl (fun ls hl => ?_)
  refine lv_goto (tgt := 443) hx hb dL_texts_482 (by decide) ?_
  refine lv_iload_n hx hb dL_texts_443 rfl (lv_at hl 0 rfl) ?_
  refine lv_bipush (v := nI 30) hx hb dL_texts_444 (by decide +kernel) ?_
  refine lv_icmp_ge (tgt := 485) hx hb dL_texts_446 (by decide) (fun h => absurd h (by decide +kernel)) (fun _ => ?_)
  refine lv_aload_n hx hb dL_texts_449 rfl (lv_at hl 1 rfl) ?_
  refine lv_bipush (v := nI 120) hx hb dL_texts_450 (by decide +kernel) ?_
  refine cx0 (st1 := [.int (nI (20 + 1))]) (va_runV (As := [.int (nI 120)]) (rest := []) ⟨hx, hb, hml, hown, hts⟩ (CX_append_ok l G hX hR (by decide) (by decide +kernel) 120 (by decide +kernel) (by decide +kernel)) (cwV 1 hts gL_texts_X5_append rfl rfl rfl (by decide +kernel) ⟨Nat.le_of_ble_eq_true rfl, Nat.le_of_ble_eq_true rfl⟩) (PJ.preV hE hJ.jx (xs_recv hE.1 hX (P_pre hP)) ⟨P_pre hP, D_tr (D_pre hD)⟩) rfl rfl hl.1 rfl (lv_room (Nat.le_of_ble_eq_true rfl)) dL_texts_452 ⟨Nat.le_of_ble_eq_true rfl, Nat.le_of_ble_eq_true rfl⟩) hP hD hS hJ0 hAl rfl (fun WC H locs hX hP hD hS hJ => ?_)
  have hR := PR_app (q := 120) hR (by decide) (by decide)
  rw [te_e44] at hX hR
  replace hX : XS G q0 (fnL L0) (fnL L0) ff2 0 0 21 (fnL te_T38) (nI 0) WC := hX
  replace hR : PR 20000 (fnL L0) (fnL L0) ff2 0 0 21 (fnL te_T38) (nI 0) := hR
  refine tI (y := nI 21) (by decide +kernel) ?_
  refine lv_iconst (v := nI 2) hx hb dL_texts_455 (by decide +kernel) ?_
  refine lv_iload_n hx hb dL_texts_456 rfl (lv_at hl 0 rfl) ?_
  refine lv_imul hx hb dL_texts_457 ?_
  refine tI (y := nI 20) (by decide +kernel) ?_
  refine lv_iconst (v := nI 1) hx hb dL_texts_458 (by decide +kernel) ?_
  refine lv_iadd hx hb dL_texts_459 ?_
  refine tI (y := nI 21) (by decide +kernel) ?_
  refine lv_icmp_ne (tgt := 477) hx hb dL_texts_460 (by decide) (fun h => absurd h (by decide +kernel)) (fun _ => ?_)
  refine lv_aload_n hx hb dL_texts_463 rfl (lv_at hl 1 rfl) ?_
  refine lv_bipush (v := nI 59) hx hb dL_texts_464 (by decide +kernel) ?_
  refine cx0 (st1 := [.int (nI (21 + 1))]) (va_runV (As := [.int (nI 59)]) (rest := []) ⟨hx, hb, hml, hown, hts⟩ (CX_append_ok l G hX hR (by decide) (by decide +kernel) 59 (by decide +kernel) (by decide +kernel)) (cwV 1 hts gL_texts_X5_append rfl rfl rfl (by decide +kernel) ⟨Nat.le_of_ble_eq_true rfl, Nat.le_of_ble_eq_true rfl⟩) (PJ.preV hE hJ.jx (xs_recv hE.1 hX (P_pre hP)) ⟨P_pre hP, D_tr (D_pre hD)⟩) rfl rfl hl.1 rfl (lv_room (Nat.le_of_ble_eq_true rfl)) dL_texts_466 ⟨Nat.le_of_ble_eq_true rfl, Nat.le_of_ble_eq_true rfl⟩) hP hD hS hJ0 hAl rfl (fun WC H locs hX hP hD hS hJ => ?_)
  have hR := PR_app (q := 59) hR (by decide) (by decide)
  rw [te_e45] at hX hR
  replace hX : XS G q0 (fnL L0) (fnL L0) ff2 0 0 22 (fnL te_T39) (nI 0) WC := hX
  replace hR : PR 20000 (fnL L0) (fnL L0) ff2 0 0 22 (fnL te_T39) (nI 0) := hR
  refine tI (y := nI 22) (by decide +kernel) ?_
  refine lv_iconst (v := nI 2) hx hb dL_texts_469 (by decide +kernel) ?_
  refine lv_iload_n hx hb dL_texts_470 rfl (lv_at hl 0 rfl) ?_
  refine lv_imul hx hb dL_texts_471 ?_
  refine tI (y := nI 20) (by decide +kernel) ?_
  refine lv_iconst (v := nI 2) hx hb dL_texts_472 (by decide +kernel) ?_
  refine lv_iadd hx hb dL_texts_473 ?_
  refine tI (y := nI 22) (by decide +kernel) ?_
  refine lv_icmp_eq (tgt := 479) hx hb dL_texts_474 (by decide) (fun _ => ?_) (fun h => absurd h (by decide +kernel))
  refine lv_iinc (v := nI 11) (lv' := [(1, .int (nI 11)), (0, .ref q0)]) hx hb dL_texts_479 hl (k := 0) rfl (by decide +kernel) (by decide) rfl (fun ls hl => ?_)
  refine lv_goto (tgt := 443) hx hb dL_texts_482 (by decide) ?_
  refine lv_iload_n hx hb dL_texts_443 rfl (lv_at hl 0 rfl) ?_
  refine lv_bipush (v := nI 30) hx hb dL_texts_444 (by decide +kernel) ?_
  refine lv_icmp_ge (tgt := 485) hx hb dL_texts_446 (by decide) (fun h => absurd h (by decide +kernel)) (fun _ => ?_)
  refine lv_aload_n hx hb dL_texts_449 rfl (lv_at hl 1 rfl) ?_
  refine lv_bipush (v := nI 120) hx hb dL_texts_450 (by decide +kernel) ?_
  refine cx0 (st1 := [.int (nI (22 + 1))]) (va_runV (As := [.int (nI 120)]) (rest := []) ⟨hx, hb, hml, hown, hts⟩ (CX_append_ok l G hX hR (by decide) (by decide +kernel) 120 (by decide +kernel) (by decide +kernel)) (cwV 1 hts gL_texts_X5_append rfl rfl rfl (by decide +kernel) ⟨Nat.le_of_ble_eq_true rfl, Nat.le_of_ble_eq_true rfl⟩) (PJ.preV hE hJ.jx (xs_recv hE.1 hX (P_pre hP)) ⟨P_pre hP, D_tr (D_pre hD)⟩) rfl rfl hl.1 rfl (lv_room (Nat.le_of_ble_eq_true rfl)) dL_texts_452 ⟨Nat.le_of_ble_eq_true rfl, Nat.le_of_ble_eq_true rfl⟩) hP hD hS hJ0 hAl rfl (fun WC H locs hX hP hD hS hJ => ?_)
  have hR := PR_app (q := 120) hR (by decide) (by decide)
  rw [te_e46] at hX hR
  replace hX : XS G q0 (fnL L0) (fnL L0) ff2 0 0 23 (fnL te_T40) (nI 0) WC := hX
  replace hR : PR 20000 (fnL L0) (fnL L0) ff2 0 0 23 (fnL te_T40) (nI 0) := hR
  refine tI (y := nI 23) (by decide +kernel) ?_
  refine lv_iconst (v := nI 2) hx hb dL_texts_455 (by decide +kernel) ?_
  refine lv_iload_n hx hb dL_texts_456 rfl (lv_at hl 0 rfl) ?_
  refine lv_imul hx hb dL_texts_457 ?_
  refine tI (y := nI 22) (by decide +kernel) ?_
  refine lv_iconst (v := nI 1) hx hb dL_texts_458 (by decide +kernel) ?_
  refine lv_iadd hx hb dL_texts_459 ?_
  refine tI (y := nI 23) (by decide +kernel) ?_
  refine lv_icmp_ne (tgt := 477) hx hb dL_texts_460 (by decide) (fun h => absurd h (by decide +kernel)) (fun _ => ?_)
  refine lv_aload_n hx hb dL_texts_463 rfl (lv_at hl 1 rfl) ?_
  refine lv_bipush (v := nI 59) hx hb dL_texts_464 (by decide +kernel) ?_
  refine cx0 (st1 := [.int (nI (23 + 1))]) (va_runV (As := [.int (nI 59)]) (rest := []) ⟨hx, hb, hml, hown, hts⟩ (CX_append_ok l G hX hR (by decide) (by decide +kernel) 59 (by decide +kernel) (by decide +kernel)) (cwV 1 hts gL_texts_X5_append rfl rfl rfl (by decide +kernel) ⟨Nat.le_of_ble_eq_true rfl, Nat.le_of_ble_eq_true rfl⟩) (PJ.preV hE hJ.jx (xs_recv hE.1 hX (P_pre hP)) ⟨P_pre hP, D_tr (D_pre hD)⟩) rfl rfl hl.1 rfl (lv_room (Nat.le_of_ble_eq_true rfl)) dL_texts_466 ⟨Nat.le_of_ble_eq_true rfl, Nat.le_of_ble_eq_true rfl⟩) hP hD hS hJ0 hAl rfl (fun WC H locs hX hP hD hS hJ => ?_)
  have hR := PR_app (q := 59) hR (by decide) (by decide)
  rw [te_e47] at hX hR
  replace hX : XS G q0 (fnL L0) (fnL L0) ff2 0 0 24 (fnL te_T41) (nI 0) WC := hX
  replace hR : PR 20000 (fnL L0) (fnL L0) ff2 0 0 24 (fnL te_T41) (nI 0) := hR
  refine tI (y := nI 24) (by decide +kernel) ?_
  refine lv_iconst (v := nI 2) hx hb dL_texts_469 (by decide +kernel) ?_
  refine lv_iload_n hx hb dL_texts_470 rfl (lv_at hl 0 rfl) ?_
  refine lv_imul hx hb dL_texts_471 ?_
  refine tI (y := nI 22) (by decide +kernel) ?_
  refine lv_iconst (v := nI 2) hx hb dL_texts_472 (by decide +kernel) ?_
  refine lv_iadd hx hb dL_texts_473 ?_
  refine tI (y := nI 24) (by decide +kernel) ?_
  refine lv_icmp_eq (tgt := 479) hx hb dL_texts_474 (by decide) (fun _ => ?_) (fun h => absurd h (by decide +kernel))
  refine lv_iinc (v := nI 12) (lv' := [(1, .int (nI 12)), (0, .ref q0)]) hx hb dL_texts_479 hl (k := 0) rfl (by decide +kernel) (by decide) rfl (fun ls hl => ?_)
  refine lv_goto (tgt := 443) hx hb dL_texts_482 (by decide) ?_
  refine lv_iload_n hx hb dL_texts_443 rfl (lv_at hl 0 rfl) ?_
  refine lv_bipush (v := nI 30) hx hb dL_texts_444 (by decide +kernel) ?_
  refine lv_icmp_ge (tgt := 485) hx hb dL_texts_446 (by decide) (fun h => absurd h (by decide +kernel)) (fun _ => ?_)
  refine lv_aload_n hx hb dL_texts_449 rfl (lv_at hl 1 rfl) ?_
  refine lv_bipush (v := nI 120) hx hb dL_texts_450 (by decide +kernel) ?_
  refine cx0 (st1 := [.int (nI (24 + 1))]) (va_runV (As := [.int (nI 120)]) (rest := []) ⟨hx, hb, hml, hown, hts⟩ (CX_append_ok l G hX hR (by decide) (by decide +kernel) 120 (by decide +kernel) (by decide +kernel)) (cwV 1 hts gL_texts_X5_append rfl rfl rfl (by decide +kernel) ⟨Nat.le_of_ble_eq_true rfl, Nat.le_of_ble_eq_true rfl⟩) (PJ.preV hE hJ.jx (xs_recv hE.1 hX (P_pre hP)) ⟨P_pre hP, D_tr (D_pre hD)⟩) rfl rfl hl.1 rfl (lv_room (Nat.le_of_ble_eq_true rfl)) dL_texts_452 ⟨Nat.le_of_ble_eq_true rfl, Nat.le_of_ble_eq_true rfl⟩) hP hD hS hJ0 hAl rfl (fun WC H locs hX hP hD hS hJ => ?_)
  have hR := PR_app (q := 120) hR (by decide) (by decide)
  rw [te_e48] at hX hR
  replace hX : XS G q0 (fnL L0) (fnL L0) ff2 0 0 25 (fnL te_T42) (nI 0) WC := hX
  replace hR : PR 20000 (fnL L0) (fnL L0) ff2 0 0 25 (fnL te_T42) (nI 0) := hR
  refine tI (y := nI 25) (by decide +kernel) ?_
  refine lv_iconst (v := nI 2) hx hb dL_texts_455 (by decide +kernel) ?_
  refine lv_iload_n hx hb dL_texts_456 rfl (lv_at hl 0 rfl) ?_
  refine lv_imul hx hb dL_texts_457 ?_
  refine tI (y := nI 24) (by decide +kernel) ?_
  refine lv_iconst (v := nI 1) hx hb dL_texts_458 (by decide +kernel) ?_
  refine lv_iadd hx hb dL_texts_459 ?_
  refine tI (y := nI 25) (by decide +kernel) ?_
  refine lv_icmp_ne (tgt := 477) hx hb dL_texts_460 (by decide) (fun h => absurd h (by decide +kernel)) (fun _ => ?_)
  refine lv_aload_n hx hb dL_texts_463 rfl (lv_at hl 1 rfl) ?_
  refine lv_bipush (v := nI 59) hx hb dL_texts_464 (by decide +kernel) ?_
  refine cx0 (st1 := [.int (nI (25 + 1))]) (va_runV (As := [.int (nI 59)]) (rest := []) ⟨hx, hb, hml, hown, hts⟩ (CX_append_ok l G hX hR (by decide) (by decide +kernel) 59 (by decide +kernel) (by decide +kernel)) (cwV 1 hts gL_texts_X5_append rfl rfl rfl (by decide +kernel) ⟨Nat.le_of_ble_eq_true rfl, Nat.le_of_ble_eq_true rfl⟩) (PJ.preV hE hJ.jx (xs_recv hE.1 hX (P_pre hP)) ⟨P_pre hP, D_tr (D_pre hD)⟩) rfl rfl hl.1 rfl (lv_room (Nat.le_of_ble_eq_true rfl)) dL_texts_466 ⟨Nat.le_of_ble_eq_true rfl, Nat.le_of_ble_eq_true rfl⟩) hP hD hS hJ0 hAl rfl (fun WC H locs hX hP hD hS hJ => ?_)
  have hR := PR_app (q := 59) hR (by decide) (by decide)
  rw [te_e49] at hX hR
  replace hX : XS G q0 (fnL L0) (fnL L0) ff2 0 0 26 (fnL te_T43) (nI 0) WC := hX
  replace hR : PR 20000 (fnL L0) (fnL L0) ff2 0 0 26 (fnL te_T43) (nI 0) := hR
  refine tI (y := nI 26) (by decide +kernel) ?_
  refine lv_iconst (v := nI 2) hx hb dL_texts_469 (by decide +kernel) ?_
  refine lv_iload_n hx hb dL_texts_470 rfl (lv_at hl 0 rfl) ?_
  refine lv_imul hx hb dL_texts_471 ?_
  refine tI (y := nI 24) (by decide +kernel) ?_
  refine lv_iconst (v := nI 2) hx hb dL_texts_472 (by decide +kernel) ?_
  refine lv_iadd hx hb dL_texts_473 ?_
  refine tI (y := nI 26) (by decide +kernel) ?_
  refine lv_icmp_eq (tgt := 479) hx hb dL_texts_474 (by decide) (fun _ => ?_) (fun h => absurd h (by decide +kernel))
  refine lv_iinc (v := nI 13) (lv' := [(1, .int (nI 13)), (0, .ref q0)]) hx hb dL_texts_479 hl (k := 0) rfl (by decide +kernel) (by decide) rfl (fun ls hl => ?_)
  refine lv_goto (tgt := 443) hx hb dL_texts_482 (by decide) ?_
  refine lv_iload_n hx hb dL_texts_443 rfl (lv_at hl 0 rfl) ?_
  refine lv_bipush (v := nI 30) hx hb dL_texts_444 (by decide +kernel) ?_
  refine lv_icmp_ge (tgt := 485) hx hb dL_texts_446 (by decide) (fun h => absurd h (by decide +kernel)) (fun _ => ?_)
  refine lv_aload_n hx hb dL_texts_449 rfl (lv_at hl 1 rfl) ?_
  refine lv_bipush (v := nI 120) hx hb dL_texts_450 (by decide +kernel) ?_
  refine cx0 (st1 := [.int (nI (26 + 1))]) (va_runV (As := [.int (nI 120)]) (rest := []) ⟨hx, hb, hml, hown, hts⟩ (CX_append_ok l G hX hR (by decide) (by decide +kernel) 120 (by decide +kernel) (by decide +kernel)) (cwV 1 hts gL_texts_X5_append rfl rfl rfl (by decide +kernel) ⟨Nat.le_of_ble_eq_true rfl, Nat.le_of_ble_eq_true rfl⟩) (PJ.preV hE hJ.jx (xs_recv hE.1 hX (P_pre hP)) ⟨P_pre hP, D_tr (D_pre hD)⟩) rfl rfl hl.1 rfl (lv_room (Nat.le_of_ble_eq_true rfl)) dL_texts_452 ⟨Nat.le_of_ble_eq_true rfl, Nat.le_of_ble_eq_true rfl⟩) hP hD hS hJ0 hAl rfl (fun WC H locs hX hP hD hS hJ => ?_)
  have hR := PR_app (q := 120) hR (by decide) (by decide)
  rw [te_e50] at hX hR
  replace hX : XS G q0 (fnL L0) (fnL L0) ff2 0 0 27 (fnL te_T44) (nI 0) WC := hX
  replace hR : PR 20000 (fnL L0) (fnL L0) ff2 0 0 27 (fnL te_T44) (nI 0) := hR
  refine tI (y := nI 27) (by decide +kernel) ?_
  refine lv_iconst (v := nI 2) hx hb dL_texts_455 (by decide +kernel) ?_
  refine lv_iload_n hx hb dL_texts_456 rfl (lv_at hl 0 rfl) ?_
  refine lv_imul hx hb dL_texts_457 ?_
  refine tI (y := nI 26) (by decide +kernel) ?_
  refine lv_iconst (v := nI 1) hx hb dL_texts_458 (by decide +kernel) ?_
  refine lv_iadd hx hb dL_texts_459 ?_
  refine tI (y := nI 27) (by decide +kernel) ?_
  refine lv_icmp_ne (tgt := 477) hx hb dL_texts_460 (by decide) (fun h => absurd h (by decide +kernel)) (fun _ => ?_)
  refine lv_aload_n hx hb dL_texts_463 rfl (lv_at hl 1 rfl) ?_
  refine lv_bipush (v := nI 59) hx hb dL_texts_464 (by decide +kernel) ?_
  refine cx0 (st1 := [.int (nI (27 + 1))]) (va_runV (As := [.int (nI 59)]) (rest := []) ⟨hx, hb, hml, hown, hts⟩ (CX_append_ok l G hX hR (by decide) (by decide +kernel) 59 (by decide +kernel) (by decide +kernel)) (cwV 1 hts gL_texts_X5_append rfl rfl rfl (by decide +kernel) ⟨Nat.le_of_ble_eq_true rfl, Nat.le_of_ble_eq_true rfl⟩) (PJ.preV hE hJ.jx (xs_recv hE.1 hX (P_pre hP)) ⟨P_pre hP, D_tr (D_pre hD)⟩) rfl rfl hl.1 rfl (lv_room (Nat.le_of_ble_eq_true rfl)) dL_texts_466 ⟨Nat.le_of_ble_eq_true rfl, Nat.le_of_ble_eq_true rfl⟩) hP hD hS hJ0 hAl rfl (fun WC H locs hX hP hD hS hJ => ?_)
  have hR := PR_app (q := 59) hR (by decide) (by decide)
  rw [te_e51] at hX hR
  replace hX : XS G q0 (fnL L0) (fnL L0) ff2 0 0 28 (fnL te_T45) (nI 0) WC := hX
  replace hR : PR 20000 (fnL L0) (fnL L0) ff2 0 0 28 (fnL te_T45) (nI 0) := hR
  refine tI (y := nI 28) (by decide +kernel) ?_
  refine lv_iconst (v := nI 2) hx hb dL_texts_469 (by decide +kernel) ?_
  refine lv_iload_n hx hb dL_texts_470 rfl (lv_at hl 0 rfl) ?_
  refine lv_imul hx hb dL_texts_471 ?_
  refine tI (y := nI 26) (by decide +kernel) ?_
  refine lv_iconst (v := nI 2) hx hb dL_texts_472 (by decide +kernel) ?_
  refine lv_iadd hx hb dL_texts_473 ?_
  refine tI (y := nI 28) (by decide +kernel) ?_
  refine lv_icmp_eq (tgt := 479) hx hb dL_texts_474 (by decide) (fun _ => ?_) (fun h => absurd h (by decide +kernel))
  refine lv_iinc (v := nI 14) (lv' := [(1, .int (nI 14)), (0, .ref q0)]) hx hb dL_texts_479 hl (k := 0) rfl (by decide +kernel) (by decide) rfl (fun ls hl => ?_)
  refine lv_goto (tgt := 443) hx hb dL_texts_482 (by decide) ?_
  refine lv_iload_n hx hb dL_texts_443 rfl (lv_at hl 0 rfl) ?_
  refine lv_bipush (v := nI 30) hx hb dL_texts_444 (by decide +kernel) ?_
  refine lv_icmp_ge (tgt := 485) hx hb dL_texts_446 (by decide) (fun h => absurd h (by decide +kernel)) (fun _ => ?_)
  refine lv_aload_n hx hb dL_texts_449 rfl (lv_at hl 1 rfl) ?_
  refine lv_bipush (v := nI 120) hx hb dL_texts_450 (by decide +kernel) ?_
  refine cx0 (st1 := [.int (nI (28 + 1))]) (va_runV (As := [.int (nI 120)]) (rest := []) ⟨hx, hb, hml, hown, hts⟩ (CX_append_ok l G hX hR (by decide) (by decide +kernel) 120 (by decide +kernel) (by decide +kernel)) (cwV 1 hts gL_texts_X5_append rfl rfl rfl (by decide +kernel) ⟨Nat.le_of_ble_eq_true rfl, Nat.le_of_ble_eq_true rfl⟩) (PJ.preV hE hJ.jx (xs_recv hE.1 hX (P_pre hP)) ⟨P_pre hP, D_tr (D_pre hD)⟩) rfl rfl hl.1 rfl (lv_room (Nat.le_of_ble_eq_true rfl)) dL_texts_452 ⟨Nat.le_of_ble_eq_true rfl, Nat.le_of_ble_eq_true rfl⟩) hP hD hS hJ0 hAl rfl (fun WC H locs hX hP hD hS hJ => ?_)
  have hR := PR_app (q := 120) hR (by decide) (by decide)
  rw [te_e52] at hX hR
  replace hX : XS G q0 (fnL L0) (fnL L0) ff2 0 0 29 (fnL te_T46) (nI 0) WC := hX
  replace hR : PR 20000 (fnL L0) (fnL L0) ff2 0 0 29 (fnL te_T46) (nI 0) := hR
  refine tI (y := nI 29) (by decide +kernel) ?_
  refine lv_iconst (v := nI 2) hx hb dL_texts_455 (by decide +kernel) ?_
  refine lv_iload_n hx hb dL_texts_456 rfl (lv_at hl 0 rfl) ?_
  refine lv_imul hx hb dL_texts_457 ?_
  refine tI (y := nI 28) (by decide +kernel) ?_
  refine lv_iconst (v := nI 1) hx hb dL_texts_458 (by decide +kernel) ?_
  refine lv_iadd hx hb dL_texts_459 ?_
  refine tI (y := nI 29) (by decide +kernel) ?_
  refine lv_icmp_ne (tgt := 477) hx hb dL_texts_460 (by decide) (fun h => absurd h (by decide +kernel)) (fun _ => ?_)
  refine lv_aload_n hx hb dL_texts_463 rfl (lv_at hl 1 rfl) ?_
  refine lv_bipush (v := nI 59) hx hb dL_texts_464 (by decide +kernel) ?_
  refine cx0 (st1 := [.int (nI (29 + 1))]) (va_runV (As := [.int (nI 59)]) (rest := []) ⟨hx, hb, hml, hown, hts⟩ (CX_append_ok l G hX hR (by decide) (by decide +kernel) 59 (by decide +kernel) (by decide +kernel)) (cwV 1 hts gL_texts_X5_append rfl rfl rfl (by decide +kernel) ⟨Nat.le_of_ble_eq_true rfl, Nat.le_of_ble_eq_true rfl⟩) (PJ.preV hE hJ.jx (xs_recv hE.1 hX (P_pre hP)) ⟨P_pre hP, D_tr (D_pre hD)⟩) rfl rfl hl.1 rfl (lv_room (Nat.le_of_ble_eq_true rfl)) dL_texts_466 ⟨Nat.le_of_ble_eq_true rfl, Nat.le_of_ble_eq_true rfl⟩) hP hD hS hJ0 hAl rfl (fun WC H locs hX hP hD hS hJ => ?_)
  have hR := PR_app (q := 59) hR (by decide) (by decide)
  rw [te_e53] at hX hR
  replace hX : XS G q0 (fnL L0) (fnL L0) ff2 0 0 30 (fnL te_T47) (nI 0) WC := hX
  replace hR : PR 20000 (fnL L0) (fnL L0) ff2 0 0 30 (fnL te_T47) (nI 0) := hR
  refine tI (y := nI 30) (by decide +kernel) ?_
  refine lv_iconst (v := nI 2) hx hb dL_texts_469 (by decide +kernel) ?_
  refine lv_iload_n hx hb dL_texts_470 rfl (lv_at hl 0 rfl) ?_
  refine lv_imul hx hb dL_texts_471 ?_
  refine tI (y := nI 28) (by decide +kernel) ?_
  refine lv_iconst (v := nI 2) hx hb dL_texts_472 (by decide +kernel) ?_
  refine lv_iadd hx hb dL_texts_473 ?_
  refine tI (y := nI 30) (by decide +kernel) ?_
  refine lv_icmp_eq (tgt := 479) hx hb dL_texts_474 (by decide) (fun _ => ?_) (fun h => absurd h (by decide +kernel))
  refine lv_iinc (v := nI 15) (lv' := [(1, .int (nI 15)), (0, .ref q0)]) hx hb dL_texts_479 hl (k := 0) rfl (by decide +kernel) (by decide) rfl (fun ls hl => ?_)
  refine lv_goto (tgt := 443) hx hb dL_texts_482 (by decide) ?_
  refine lv_iload_n hx hb dL_texts_443 rfl (lv_at hl 0 rfl) ?_
  refine lv_bipush (v := nI 30) hx hb dL_texts_444 (by decide +kernel) ?_
  refine lv_icmp_ge (tgt := 485) hx hb dL_texts_446 (by decide) (fun h => absurd h (by decide +kernel)) (fun _ => ?_)
  refine lv_aload_n hx hb dL_texts_449 rfl (lv_at hl 1 rfl) ?_
  refine lv_bipush (v := nI 120) hx hb dL_texts_450 (by decide +kernel) ?_
  refine cx0 (st1 := [.int (nI (30 + 1))]) (va_runV (As := [.int (nI 120)]) (rest := []) ⟨hx, hb, hml, hown, hts⟩ (CX_append_ok l G hX hR (by decide) (by decide +kernel) 120 (by decide +kernel) (by decide +kernel)) (cwV 1 hts gL_texts_X5_append rfl rfl rfl (by decide +kernel) ⟨Nat.le_of_ble_eq_true rfl, Nat.le_of_ble_eq_true rfl⟩) (PJ.preV hE hJ.jx (xs_recv hE.1 hX (P_pre hP)) ⟨P_pre hP, D_tr (D_pre hD)⟩) rfl rfl hl.1 rfl (lv_room (Nat.le_of_ble_eq_true rfl)) dL_texts_452 ⟨Nat.le_of_ble_eq_true rfl, Nat.le_of_ble_eq_true rfl⟩) hP hD hS hJ0 hAl rfl (fun WC H locs hX hP hD hS hJ => ?_)
  have hR := PR_app (q := 120) hR (by decide) (by decide)
  rw [te_e54] at hX hR
  replace hX : XS G q0 (fnL L0) (fnL L0) ff2 0 0 31 (fnL te_T48) (nI 0) WC := hX
  replace hR : PR 20000 (fnL L0) (fnL L0) ff2 0 0 31 (fnL te_T48) (nI 0) := hR
  refine tI (y := nI 31) (by decide +kernel) ?_
  refine lv_iconst (v := nI 2) hx hb dL_texts_455 (by decide +kernel) ?_
  refine lv_iload_n hx hb dL_texts_456 rfl (lv_at hl 0 rfl) ?_
  refine lv_imul hx hb dL_texts_457 ?_
  refine tI (y := nI 30) (by decide +kernel) ?_
  refine lv_iconst (v := nI 1) hx hb dL_texts_458 (by decide +kernel) ?_
  refine lv_iadd hx hb dL_texts_459 ?_
  refine tI (y := nI 31) (by decide +kernel) ?_
  refine lv_icmp_ne (tgt := 477) hx hb dL_texts_460 (by decide) (fun h => absurd h (by decide +kernel)) (fun _ => ?_)
  refine lv_aload_n hx hb dL_texts_463 rfl (lv_at hl 1 rfl) ?_
  refine lv_bipush (v := nI 59) hx hb dL_texts_464 (by decide +kernel) ?_
  refine cx0 (st1 := [.int (nI (31 + 1))]) (va_runV (As := [.int (nI 59)]) (rest := []) ⟨hx, hb, hml, hown, hts⟩ (CX_append_ok l G hX hR (by decide) (by decide +kernel) 59 (by decide +kernel) (by decide +kernel)) (cwV 1 hts gL_texts_X5_append rfl rfl rfl (by decide +kernel) ⟨Nat.le_of_ble_eq_true rfl, Nat.le_of_ble_eq_true rfl⟩) (PJ.preV hE hJ.jx (xs_recv hE.1 hX (P_pre hP)) ⟨P_pre hP, D_tr (D_pre hD)⟩) rfl rfl hl.1 rfl (lv_room (Nat.le_of_ble_eq_true rfl)) dL_texts_466 ⟨Nat.le_of_ble_eq_true rfl, Nat.le_of_ble_eq_true rfl⟩) hP hD hS hJ0 hAl rfl (fun WC H locs hX hP hD hS hJ => ?_)
  have hR := PR_app (q := 59) hR (by decide) (by decide)
  rw [te_e55] at hX hR
  replace hX : XS G q0 (fnL L0) (fnL L0) ff2 0 0 32 (fnL te_T49) (nI 0) WC := hX
  replace hR : PR 20000 (fnL L0) (fnL L0) ff2 0 0 32 (fnL te_T49) (nI 0) := hR
  refine tI (y := nI 32) (by decide +kernel) ?_
  refine lv_iconst (v := nI 2) hx hb dL_texts_469 (by decide +kernel) ?_
  refine lv_iload_n hx hb dL_texts_470 rfl (lv_at hl 0 rfl) ?_
  refine lv_imul hx hb dL_texts_471 ?_
  refine tI (y := nI 30) (by decide +kernel) ?_
  refine lv_iconst (v := nI 2) hx hb dL_texts_472 (by decide +kernel) ?_
  refine lv_iadd hx hb dL_texts_473 ?_
  refine tI (y := nI 32) (by decide +kernel) ?_
  refine lv_icmp_eq (tgt := 479) hx hb dL_texts_474 (by decide) (fun _ => ?_) (fun h => absurd h (by decide +kernel))
  refine lv_iinc (v := nI 16) (lv' := [(1, .int (nI 16)), (0, .ref q0)]) hx hb dL_texts_479 hl (k := 0) rfl (by decide +kernel) (by decide) rfl (fun ls hl => ?_)
  refine lv_goto (tgt := 443) hx hb dL_texts_482 (by decide) ?_
  refine lv_iload_n hx hb dL_texts_443 rfl (lv_at hl 0 rfl) ?_
  refine lv_bipush (v := nI 30) hx hb dL_texts_444 (by decide +kernel) ?_
  refine lv_icmp_ge (tgt := 485) hx hb dL_texts_446 (by decide) (fun h => absurd h (by decide +kernel)) (fun _ => ?_)
  refine lv_aload_n hx hb dL_texts_449 rfl (lv_at hl 1 rfl) ?_
  refine lv_bipush (v := nI 120) hx hb dL_texts_450 (by decide +kernel) ?_
  refine cx0 (st1 := [.int (nI (32 + 1))]) (va_runV (As := [.int (nI 120)]) (rest := []) ⟨hx, hb, hml, hown, hts⟩ (CX_append_ok l G hX hR (by decide) (by decide +kernel) 120 (by decide +kernel) (by decide +kernel)) (cwV 1 hts gL_texts_X5_append rfl rfl rfl (by decide +kernel) ⟨Nat.le_of_ble_eq_true rfl, Nat.le_of_ble_eq_true rfl⟩) (PJ.preV hE hJ.jx (xs_recv hE.1 hX (P_pre hP)) ⟨P_pre hP, D_tr (D_pre hD)⟩) rfl rfl hl.1 rfl (lv_room (Nat.le_of_ble_eq_true rfl)) dL_texts_452 ⟨Nat.le_of_ble_eq_true rfl, Nat.le_of_ble_eq_true rfl⟩) hP hD hS hJ0 hAl rfl (fun WC H locs hX hP hD hS hJ => ?_)
  have hR := PR_app (q := 120) hR (by decide) (by decide)
  rw [te_e56] at hX hR
  replace hX : XS G q0 (fnL L0) (fnL L0) ff2 0 0 33 (fnL te_T50) (nI 0) WC := hX
  replace hR : PR 20000 (fnL L0) (fnL L0) ff2 0 0 33 (fnL te_T50) (nI 0) := hR
  refine tI (y := nI 33) (by decide +kernel) ?_
  refine lv_iconst (v := nI 2) hx hb dL_texts_455 (by decide +kernel) ?_
  refine lv_iload_n hx hb dL_texts_456 rfl (lv_at hl 0 rfl) ?_
  refine lv_imul hx hb dL_texts_457 ?_
  refine tI (y := nI 32) (by decide +kernel) ?_
  refine lv_iconst (v := nI 1) hx hb dL_texts_458 (by decide +kernel) ?_
  refine lv_iadd hx hb dL_texts_459 ?_
  refine tI (y := nI 33) (by decide +kernel) ?_
  refine lv_icmp_ne (tgt := 477) hx hb dL_texts_460 (by decide) (fun h => absurd h (by decide +kernel)) (fun _ => ?_)
  refine lv_aload_n hx hb dL_texts_463 rfl (lv_at hl 1 rfl) ?_
  refine lv_bipush (v := nI 59) hx hb dL_texts_464 (by decide +kernel) ?_
  refine cx0 (st1 := [.int (nI (33 + 1))]) (va_runV (As := [.int (nI 59)]) (rest := []) ⟨hx, hb, hml, hown, hts⟩ (CX_append_ok l G hX hR (by decide) (by decide +kernel) 59 (by decide +kernel) (by decide +kernel)) (cwV 1 hts gL_texts_X5_append rfl rfl rfl (by decide +kernel) ⟨Nat.le_of_ble_eq_true rfl, Nat.le_of_ble_eq_true rfl⟩) (PJ.preV hE hJ.jx (xs_recv hE.1 hX (P_pre hP)) ⟨P_pre hP, D_tr (D_pre hD)⟩) rfl rfl hl.1 rfl (lv_room (Nat.le_of_ble_eq_true rfl)) dL_texts_466 ⟨Nat.le_of_ble_eq_true rfl, Nat.le_of_ble_eq_true rfl⟩) hP hD hS hJ0 hAl rfl (fun WC H locs hX hP hD hS hJ => ?_)
  have hR := PR_app (q := 59) hR (by decide) (by decide)
  rw [te_e57] at hX hR
  replace hX : XS G q0 (fnL L0) (fnL L0) ff2 0 0 34 (fnL te_T51) (nI 0) WC := hX
  replace hR : PR 20000 (fnL L0) (fnL L0) ff2 0 0 34 (fnL te_T51) (nI 0) := hR
  refine tI (y := nI 34) (by decide +kernel) ?_
  refine lv_iconst (v := nI 2) hx hb dL_texts_469 (by decide +kernel) ?_
  refine lv_iload_n hx hb dL_texts_470 rfl (lv_at hl 0 rfl) ?_
  refine lv_imul hx hb dL_texts_471 ?_
  refine tI (y := nI 32) (by decide +kernel) ?_
  refine lv_iconst (v := nI 2) hx hb dL_texts_472 (by decide +kernel) ?_
  refine lv_iadd hx hb dL_texts_473 ?_
  refine tI (y := nI 34) (by decide +kernel) ?_
  refine lv_icmp_eq (tgt := 479) hx hb dL_texts_474 (by decide) (fun _ => ?_) (fun h => absurd h (by decide +kernel))
  refine lv_iinc (v := nI 17) (lv' := [(1, .int (nI 17)), (0, .ref q0)]) hx hb dL_texts_479 hl (k := 0) rfl (by decide +kernel) (by decide) rfl (fun ls hl => ?_)
  refine lv_goto (tgt := 443) hx hb dL_texts_482 (by decide) ?_
  refine lv_iload_n hx hb dL_texts_443 rfl (lv_at hl 0 rfl) ?_
  refine lv_bipush (v := nI 30) hx hb dL_texts_444 (by decide +kernel) ?_
  refine lv_icmp_ge (tgt := 485) hx hb dL_texts_446 (by decide) (fun h => absurd h (by decide +kernel)) (fun _ => ?_)
  refine lv_aload_n hx hb dL_texts_449 rfl (lv_at hl 1 rfl) ?_
  refine lv_bipush (v := nI 120) hx hb dL_texts_450 (by decide +kernel) ?_
  refine cx0 (st1 := [.int (nI (34 + 1))]) (va_runV (As := [.int (nI 120)]) (rest := []) ⟨hx, hb, hml, hown, hts⟩ (CX_append_ok l G hX hR (by decide) (by decide +kernel) 120 (by decide +kernel) (by decide +kernel)) (cwV 1 hts gL_texts_X5_append rfl rfl rfl (by decide +kernel) ⟨Nat.le_of_ble_eq_true rfl, Nat.le_of_ble_eq_true rfl⟩) (PJ.preV hE hJ.jx (xs_recv hE.1 hX (P_pre hP)) ⟨P_pre hP, D_tr (D_pre hD)⟩) rfl rfl hl.1 rfl (lv_room (Nat.le_of_ble_eq_true rfl)) dL_texts_452 ⟨Nat.le_of_ble_eq_true rfl, Nat.le_of_ble_eq_true rfl⟩) hP hD hS hJ0 hAl rfl (fun WC H locs hX hP hD hS hJ => ?_)
  have hR := PR_app (q := 120) hR (by decide) (by decide)
  rw [te_e58] at hX hR
  replace hX : XS G q0 (fnL L0) (fnL L0) ff2 0 0 35 (fnL te_T52) (nI 0) WC := hX
  replace hR : PR 20000 (fnL L0) (fnL L0) ff2 0 0 35 (fnL te_T52) (nI 0) := hR
  refine tI (y := nI 35) (by decide +kernel) ?_
  refine lv_iconst (v := nI 2) hx hb dL_texts_455 (by decide +kernel) ?_
  refine lv_iload_n hx hb dL_texts_456 rfl (lv_at hl 0 rfl) ?_
  refine lv_imul hx hb dL_texts_457 ?_
  refine tI (y := nI 34) (by decide +kernel) ?_
  refine lv_iconst (v := nI 1) hx hb dL_texts_458 (by decide +kernel) ?_
  refine lv_iadd hx hb dL_texts_459 ?_
  refine tI (y := nI 35) (by decide +kernel) ?_
  refine lv_icmp_ne (tgt := 477) hx hb dL_texts_460 (by decide) (fun h => absurd h (by decide +kernel)) (fun _ => ?_)
  refine lv_aload_n hx hb dL_texts_463 rfl (lv_at hl 1 rfl) ?_
  refine lv_bipush (v := nI 59) hx hb dL_texts_464 (by decide +kernel) ?_
  refine cx0 (st1 := [.int (nI (35 + 1))]) (va_runV (As := [.int (nI 59)]) (rest := []) ⟨hx, hb, hml, hown, hts⟩ (CX_append_ok l G hX hR (by decide) (by decide +kernel) 59 (by decide +kernel) (by decide +kernel)) (cwV 1 hts gL_texts_X5_append rfl rfl rfl (by decide +kernel) ⟨Nat.le_of_ble_eq_true rfl, Nat.le_of_ble_eq_true rfl⟩) (PJ.preV hE hJ.jx (xs_recv hE.1 hX (P_pre hP)) ⟨P_pre hP, D_tr (D_pre hD)⟩) rfl rfl hl.1 rfl (lv_room (Nat.le_of_ble_eq_true rfl)) dL_texts_466 ⟨Nat.le_of_ble_eq_true rfl, Nat.le_of_ble_eq_true rfl⟩) hP hD hS hJ0 hAl rfl (fun WC H locs hX hP hD hS hJ => ?_)
  have hR := PR_app (q := 59) hR (by decide) (by decide)
  rw [te_e59] at hX hR
  replace hX : XS G q0 (fnL L0) (fnL L0) ff2 0 0 36 (fnL te_T53) (nI 0) WC := hX
  replace hR : PR 20000 (fnL L0) (fnL L0) ff2 0 0 36 (fnL te_T53) (nI 0) := hR
  refine tI (y := nI 36) (by decide +kernel) ?_
  refine lv_iconst (v := nI 2) hx hb dL_texts_469 (by decide +kernel) ?_
  refine lv_iload_n hx hb dL_texts_470 rfl (lv_at hl 0 rfl) ?_
  refine lv_imul hx hb dL_texts_471 ?_
  refine tI (y := nI 34) (by decide +kernel) ?_
  refine lv_iconst (v := nI 2) hx hb dL_texts_472 (by decide +kernel) ?_
  refine lv_iadd hx hb dL_texts_473 ?_
  refine tI (y := nI 36) (by decide +kernel) ?_
  refine lv_icmp_eq (tgt := 479) hx hb dL_texts_474 (by decide) (fun _ => ?_) (fun h => absurd h (by decide +kernel))
  refine lv_iinc (v := nI 18) (lv' := [(1, .int (nI 18)), (0, .ref q0)]) hx hb dL_texts_479 hl (k := 0) rfl (by decide +kernel) (by decide) rfl (fun ls hl => ?_)
  refine lv_goto (tgt := 443) hx hb dL_texts_482 (by decide) ?_
  refine lv_iload_n hx hb dL_texts_443 rfl (lv_at hl 0 rfl) ?_
  refine lv_bipush (v := nI 30) hx hb dL_texts_444 (by decide +kernel) ?_
  refine lv_icmp_ge (tgt := 485) hx hb dL_texts_446 (by decide) (fun h => absurd h (by decide +kernel)) (fun _ => ?_)
  refine lv_aload_n hx hb dL_texts_449 rfl (lv_at hl 1 rfl) ?_
  refine lv_bipush (v := nI 120) hx hb dL_texts_450 (by decide +kernel) ?_
  refine cx0 (st1 := [.int (nI (36 + 1))]) (va_runV (As := [.int (nI 120)]) (rest := []) ⟨hx, hb, hml, hown, hts⟩ (CX_append_ok l G hX hR (by decide) (by decide +kernel) 120 (by decide +kernel) (by decide +kernel)) (cwV 1 hts gL_texts_X5_append rfl rfl rfl (by decide +kernel) ⟨Nat.le_of_ble_eq_true rfl, Nat.le_of_ble_eq_true rfl⟩) (PJ.preV hE hJ.jx (xs_recv hE.1 hX (P_pre hP)) ⟨P_pre hP, D_tr (D_pre hD)⟩) rfl rfl hl.1 rfl (lv_room (Nat.le_of_ble_eq_true rfl)) dL_texts_452 ⟨Nat.le_of_ble_eq_true rfl, Nat.le_of_ble_eq_true rfl⟩) hP hD hS hJ0 hAl rfl (fun WC H locs hX hP hD hS hJ => ?_)
  have hR := PR_app (q := 120) hR (by decide) (by decide)
  rw [te_e60] at hX hR
  replace hX : XS G q0 (fnL L0) (fnL L0) ff2 0 0 37 (fnL te_T54) (nI 0) WC := hX
  replace hR : PR 20000 (fnL L0) (fnL L0) ff2 0 0 37 (fnL te_T54) (nI 0) := hR
  refine tI (y := nI 37) (by decide +kernel) ?_
  refine lv_iconst (v := nI 2) hx hb dL_texts_455 (by decide +kernel) ?_
  refine lv_iload_n hx hb dL_texts_456 rfl (lv_at hl 0 rfl) ?_
  refine lv_imul hx hb dL_texts_457 ?_
  refine tI (y := nI 36) (by decide +kernel) ?_
  refine lv_iconst (v := nI 1) hx hb dL_texts_458 (by decide +kernel) ?_
  refine lv_iadd hx hb dL_texts_459 ?_
  refine tI (y := nI 37) (by decide +kernel) ?_
  refine lv_icmp_ne (tgt := 477) hx hb dL_texts_460 (by decide) (fun h => absurd h (by decide +kernel)) (fun _ => ?_)
  refine lv_aload_n hx hb dL_texts_463 rfl (lv_at hl 1 rfl) ?_
  refine lv_bipush (v := nI 59) hx hb dL_texts_464 (by decide +kernel) ?_
  refine cx0 (st1 := [.int (nI (37 + 1))]) (va_runV (As := [.int (nI 59)]) (rest := []) ⟨hx, hb, hml, hown, hts⟩ (CX_append_ok l G hX hR (by decide) (by decide +kernel) 59 (by decide +kernel) (by decide +kernel)) (cwV 1 hts gL_texts_X5_append rfl rfl rfl (by decide +kernel) ⟨Nat.le_of_ble_eq_true rfl, Nat.le_of_ble_eq_true rfl⟩) (PJ.preV hE hJ.jx (xs_recv hE.1 hX (P_pre hP)) ⟨P_pre hP, D_tr (D_pre hD)⟩) rfl rfl hl.1 rfl (lv_room (Nat.le_of_ble_eq_true rfl)) dL_texts_466 ⟨Nat.le_of_ble_eq_true rfl, Nat.le_of_ble_eq_true rfl⟩) hP hD hS hJ0 hAl rfl (fun WC H locs hX hP hD hS hJ => ?_)
  have hR := PR_app (q := 59) hR (by decide) (by decide)
  rw [te_e61] at hX hR
  replace hX : XS G q0 (fnL L0) (fnL L0) ff2 0 0 38 (fnL te_T55) (nI 0) WC := hX
  replace hR : PR 20000 (fnL L0) (fnL L0) ff2 0 0 38 (fnL te_T55) (nI 0) := hR
  refine tI (y := nI 38) (by decide +kernel) ?_
  refine lv_iconst (v := nI 2) hx hb dL_texts_469 (by decide +kernel) ?_
  refine lv_iload_n hx hb dL_texts_470 rfl (lv_at hl 0 rfl) ?_
  refine lv_imul hx hb dL_texts_471 ?_
  refine tI (y := nI 36) (by decide +kernel) ?_
  refine lv_iconst (v := nI 2) hx hb dL_texts_472 (by decide +kernel) ?_
  refine lv_iadd hx hb dL_texts_473 ?_
  refine tI (y := nI 38) (by decide +kernel) ?_
  refine lv_icmp_eq (tgt := 479) hx hb dL_texts_474 (by decide) (fun _ => ?_) (fun h => absurd h (by decide +kernel))
  refine lv_iinc (v := nI 19) (lv' := [(1, .int (nI 19)), (0, .ref q0)]) hx hb dL_texts_479 hl (k := 0) rfl (by decide +kernel) (by decide) rfl (fun ls hl => ?_)
  refine lv_goto (tgt := 443) hx hb dL_texts_482 (by decide) ?_
  refine lv_iload_n hx hb dL_texts_443 rfl (lv_at hl 0 rfl) ?_
  refine lv_bipush (v := nI 30) hx hb dL_texts_444 (by decide +kernel) ?_
  refine lv_icmp_ge (tgt := 485) hx hb dL_texts_446 (by decide) (fun h => absurd h (by decide +kernel)) (fun _ => ?_)
  refine lv_aload_n hx hb dL_texts_449 rfl (lv_at hl 1 rfl) ?_
  refine lv_bipush (v := nI 120) hx hb dL_texts_450 (by decide +kernel) ?_
  refine cx0 (st1 := [.int (nI (38 + 1))]) (va_runV (As := [.int (nI 120)]) (rest := []) ⟨hx, hb, hml, hown, hts⟩ (CX_append_ok l G hX hR (by decide) (by decide +kernel) 120 (by decide +kernel) (by decide +kernel)) (cwV 1 hts gL_texts_X5_append rfl rfl rfl (by decide +kernel) ⟨Nat.le_of_ble_eq_true rfl, Nat.le_of_ble_eq_true rfl⟩) (PJ.preV hE hJ.jx (xs_recv hE.1 hX (P_pre hP)) ⟨P_pre hP, D_tr (D_pre hD)⟩) rfl rfl hl.1 rfl (lv_room (Nat.le_of_ble_eq_true rfl)) dL_texts_452 ⟨Nat.le_of_ble_eq_true rfl, Nat.le_of_ble_eq_true rfl⟩) hP hD hS hJ0 hAl rfl (fun WC H locs hX hP hD hS hJ => ?_)
  have hR := PR_app (q := 120) hR (by decide) (by decide)
  rw [te_e62] at hX hR
  replace hX : XS G q0 (fnL L0) (fnL L0) ff2 0 0 39 (fnL te_T56) (nI 0) WC := hX
  replace hR : PR 20000 (fnL L0) (fnL L0) ff2 0 0 39 (fnL te_T56) (nI 0) := hR
  refine tI (y := nI 39) (by decide +kernel) ?_
  refine lv_iconst (v := nI 2) hx hb dL_texts_455 (by decide +kernel) ?_
  refine lv_iload_n hx hb dL_texts_456 rfl (lv_at hl 0 rfl) ?_
  refine lv_imul hx hb dL_texts_457 ?_
  refine tI (y := nI 38) (by decide +kernel) ?_
  refine lv_iconst (v := nI 1) hx hb dL_texts_458 (by decide +kernel) ?_
  refine lv_iadd hx hb dL_texts_459 ?_
  refine tI (y := nI 39) (by decide +kernel) ?_
  refine lv_icmp_ne (tgt := 477) hx hb dL_texts_460 (by decide) (fun h => absurd h (by decide +kernel)) (fun _ => ?_)
  refine lv_aload_n hx hb dL_texts_463 rfl (lv_at hl 1 rfl) ?_
  refine lv_bipush (v := nI 59) hx hb dL_texts_464 (by decide +kernel) ?_
  refine cx0 (st1 := [.int (nI (39 + 1))]) (va_runV (As := [.int (nI 59)]) (rest := []) ⟨hx, hb, hml, hown, hts⟩ (CX_append_ok l G hX hR (by decide) (by decide +kernel) 59 (by decide +kernel) (by decide +kernel)) (cwV 1 hts gL_texts_X5_append rfl rfl rfl (by decide +kernel) ⟨Nat.le_of_ble_eq_true rfl, Nat.le_of_ble_eq_true rfl⟩) (PJ.preV hE hJ.jx (xs_recv hE.1 hX (P_pre hP)) ⟨P_pre hP, D_tr (D_pre hD)⟩) rfl rfl hl.1 rfl (lv_room (Nat.le_of_ble_eq_true rfl)) dL_texts_466 ⟨Nat.le_of_ble_eq_true rfl, Nat.le_of_ble_eq_true rfl⟩) hP hD hS hJ0 hAl rfl (fun WC H locs hX hP hD hS hJ => ?_)
  have hR := PR_app (q := 59) hR (by decide) (by decide)
  rw [te_e63] at hX hR
  replace hX : XS G q0 (fnL L0) (fnL L0) ff2 0 0 40 (fnL te_T57) (nI 0) WC := hX
  replace hR : PR 20000 (fnL L0) (fnL L0) ff2 0 0 40 (fnL te_T57) (nI 0) := hR
  refine tI (y := nI 40) (by decide +kernel) ?_
  refine lv_iconst (v := nI 2) hx hb dL_texts_469 (by decide +kernel) ?_
  refine lv_iload_n hx hb dL_texts_470 rfl (lv_at hl 0 rfl) ?_
  refine lv_imul hx hb dL_texts_471 ?_
  refine tI (y := nI 38) (by decide +kernel) ?_
  refine lv_iconst (v := nI 2) hx hb dL_texts_472 (by decide +kernel) ?_
  refine lv_iadd hx hb dL_texts_473 ?_
  refine tI (y := nI 40) (by decide +kernel) ?_
  refine lv_icmp_eq (tgt := 479) hx hb dL_texts_474 (by decide) (fun _ => ?_) (fun h => absurd h (by decide +kernel))
  exact te_s6 hlt hL9 hX hR hP hD hS hl
set_option maxHeartbeats 8000000 in
set_option maxRecDepth 100000 in
theorem te_s4 {p : Program} {l : Launch} {e : Env} {s : State} {m : MethodId} {below : List Frame} {meth : Method} {c : Code} {G : eG} {lo : Nat} (hlt : l.stackTraces = false) (hL : LC cL_texts 2 wsL_texts p s m meth c ([] : List Value).toArray G lo) {q0 : Nat} {ff2 : Nat → Nat → Int32} {WC : va_W} {H : Heap} {locs : List Loc} {ls : Array Slot} (hX : XS G q0 (fnL L0) (fnL L0) ff2 0 0 0 (fnL te_T21) (nI 0) WC) (hR : PR 20000 (fnL L0) (fnL L0) ff2 0 0 0 (fnL te_T21) (nI 0)) (hP : va_P G.1 vwCl (WC ++ []) H) (hD : va_D (AA s) (WC ++ [])) (hS : va_S (AA s) s.heap H locs) (hl : lv_has ls 2 [(0, .ref q0)]) : W p l e ({ frames := 8, cells := 162, slots := 1336, locals := 205 }) s m ([] : List Value).toArray below meth c H locs 160 1324 (MQ below (MV (some (.int (nI 1))) (fun _ => True) (AA s)) ([] : List Value).toArray s 162 1336 (AA s)) (F0 m 441 ls []) := by
  have hL9 := hL
  obtain ⟨hx, hb, hml, hown, hts, hE, hJ0, hF0, hr, hlocks⟩ := hL
  have hAl : ∀ q, AA s q → lo ≤ q := fun q h => Nat.le_trans hJ0.1 h
  have hA : ∀ q : Nat, s.heap.size ≤ q → AA s q := fun _ h => h
  have hJ : JB lo s _ := hJ0.S hAl hS
  refine lv_iconst (v := nI 0) hx hb dL_texts_441 (by decide +kernel) ?_
  refine lv_istore_n (lv' := [(1, .int (nI 0)), (0, .ref q0)]) hx hb dL_texts_442 rfl hl (by decide) rfl (fun ls hl => ?_)
  refine lv_iload_n hx hb dL_texts_443 rfl (lv_at hl 0 rfl) ?_
  refine lv_bipush (v := nI 30) hx hb dL_texts_444 (by decide +kernel) ?_
  refine lv_icmp_ge (tgt := 485) hx hb dL_texts_446 (by decide) (fun h => absurd h (by decide +kernel)) (fun _ => ?_)
  refine lv_aload_n hx hb dL_texts_449 rfl (lv_at hl 1 rfl) ?_
  refine lv_bipush (v := nI 120) hx hb dL_texts_450 (by decide +kernel) ?_
  refine cx0 (st1 := [.int (nI (0 + 1))]) (va_runV (As := [.int (nI 120)]) (rest := []) ⟨hx, hb, hml, hown, hts⟩ (CX_append_ok l G hX hR (by decide) (by decide +kernel) 120 (by decide +kernel) (by decide +kernel)) (cwV 1 hts gL_texts_X5_append rfl rfl rfl (by decide +kernel) ⟨Nat.le_of_ble_eq_true rfl, Nat.le_of_ble_eq_true rfl⟩) (PJ.preV hE hJ.jx (xs_recv hE.1 hX (P_pre hP)) ⟨P_pre hP, D_tr (D_pre hD)⟩) rfl rfl hl.1 rfl (lv_room (Nat.le_of_ble_eq_true rfl)) dL_texts_452 ⟨Nat.le_of_ble_eq_true rfl, Nat.le_of_ble_eq_true rfl⟩) hP hD hS hJ0 hAl rfl (fun WC H locs hX hP hD hS hJ => ?_)
  have hR := PR_app (q := 120) hR (by decide) (by decide)
  rw [te_e24] at hX hR
  replace hX : XS G q0 (fnL L0) (fnL L0) ff2 0 0 1 (fnL te_T22) (nI 0) WC := hX
  replace hR : PR 20000 (fnL L0) (fnL L0) ff2 0 0 1 (fnL te_T22) (nI 0) := hR
  refine tI (y := nI 1) (by decide +kernel) ?_
  refine lv_iconst (v := nI 2) hx hb dL_texts_455 (by decide +kernel) ?_
  refine lv_iload_n hx hb dL_texts_456 rfl (lv_at hl 0 rfl) ?_
  refine lv_imul hx hb dL_texts_457 ?_
  refine tI (y := nI 0) (by decide +kernel) ?_
  refine lv_iconst (v := nI 1) hx hb dL_texts_458 (by decide +kernel) ?_
  refine lv_iadd hx hb dL_texts_459 ?_
  refine tI (y := nI 1) (by decide +kernel) ?_
  refine lv_icmp_ne (tgt := 477) hx hb dL_texts_460 (by decide) (fun h => absurd h (by decide +kernel)) (fun _ => ?_)
  refine lv_aload_n hx hb dL_texts_463 rfl (lv_at hl 1 rfl) ?_
  refine lv_bipush (v := nI 59) hx hb dL_texts_464 (by decide +kernel) ?_
  refine cx0 (st1 := [.int (nI (1 + 1))]) (va_runV (As := [.int (nI 59)]) (rest := []) ⟨hx, hb, hml, hown, hts⟩ (CX_append_ok l G hX hR (by decide) (by decide +kernel) 59 (by decide +kernel) (by decide +kernel)) (cwV 1 hts gL_texts_X5_append rfl rfl rfl (by decide +kernel) ⟨Nat.le_of_ble_eq_true rfl, Nat.le_of_ble_eq_true rfl⟩) (PJ.preV hE hJ.jx (xs_recv hE.1 hX (P_pre hP)) ⟨P_pre hP, D_tr (D_pre hD)⟩) rfl rfl hl.1 rfl (lv_room (Nat.le_of_ble_eq_true rfl)) dL_texts_466 ⟨Nat.le_of_ble_eq_true rfl, Nat.le_of_ble_eq_true rfl⟩) hP hD hS hJ0 hAl rfl (fun WC H locs hX hP hD hS hJ => ?_)
  have hR := PR_app (q := 59) hR (by decide) (by decide)
  rw [te_e25] at hX hR
  replace hX : XS G q0 (fnL L0) (fnL L0) ff2 0 0 2 (fnL te_T22) (nI 0) WC := hX
  replace hR : PR 20000 (fnL L0) (fnL L0) ff2 0 0 2 (fnL te_T22) (nI 0) := hR
  refine tI (y := nI 2) (by decide +kernel) ?_
  refine lv_iconst (v := nI 2) hx hb dL_texts_469 (by decide +kernel) ?_
  refine lv_iload_n hx hb dL_texts_470 rfl (lv_at hl 0 rfl) ?_
  refine lv_imul hx hb dL_texts_471 ?_
  refine tI (y := nI 0) (by decide +kernel) ?_
  refine lv_iconst (v := nI 2) hx hb dL_texts_472 (by decide +kernel) ?_
  refine lv_iadd hx hb dL_texts_473 ?_
  refine tI (y := nI 2) (by decide +kernel) ?_
  refine lv_icmp_eq (tgt := 479) hx hb dL_texts_474 (by decide) (fun _ => ?_) (fun h => absurd h (by decide +kernel))
  refine lv_iinc (v := nI 1) (lv' := [(1, .int (nI 1)), (0, .ref q0)]) hx hb dL_texts_479 hl (k := 0) rfl (by decide +kernel) (by decide) rfl (fun ls hl => ?_)
  refine lv_goto (tgt := 443) hx hb dL_texts_482 (by decide) ?_
  refine lv_iload_n hx hb dL_texts_443 rfl (lv_at hl 0 rfl) ?_
  refine lv_bipush (v := nI 30) hx hb dL_texts_444 (by decide +kernel) ?_
  refine lv_icmp_ge (tgt := 485) hx hb dL_texts_446 (by decide) (fun h => absurd h (by decide +kernel)) (fun _ => ?_)
  refine lv_aload_n hx hb dL_texts_449 rfl (lv_at hl 1 rfl) ?_
  refine lv_bipush (v := nI 120) hx hb dL_texts_450 (by decide +kernel) ?_
  refine cx0 (st1 := [.int (nI (2 + 1))]) (va_runV (As := [.int (nI 120)]) (rest := []) ⟨hx, hb, hml, hown, hts⟩ (CX_append_ok l G hX hR (by decide) (by decide +kernel) 120 (by decide +kernel) (by decide +kernel)) (cwV 1 hts gL_texts_X5_append rfl rfl rfl (by decide +kernel) ⟨Nat.le_of_ble_eq_true rfl, Nat.le_of_ble_eq_true rfl⟩) (PJ.preV hE hJ.jx (xs_recv hE.1 hX (P_pre hP)) ⟨P_pre hP, D_tr (D_pre hD)⟩) rfl rfl hl.1 rfl (lv_room (Nat.le_of_ble_eq_true rfl)) dL_texts_452 ⟨Nat.le_of_ble_eq_true rfl, Nat.le_of_ble_eq_true rfl⟩) hP hD hS hJ0 hAl rfl (fun WC H locs hX hP hD hS hJ => ?_)
  have hR := PR_app (q := 120) hR (by decide) (by decide)
  rw [te_e26] at hX hR
  replace hX : XS G q0 (fnL L0) (fnL L0) ff2 0 0 3 (fnL te_T22) (nI 0) WC := hX
  replace hR : PR 20000 (fnL L0) (fnL L0) ff2 0 0 3 (fnL te_T22) (nI 0) := hR
  refine tI (y := nI 3) (by decide +kernel) ?_
  refine lv_iconst (v := nI 2) hx hb dL_texts_455 (by decide +kernel) ?_
  refine lv_iload_n hx hb dL_texts_456 rfl (lv_at hl 0 rfl) ?_
  refine lv_imul hx hb dL_texts_457 ?_
  refine tI (y := nI 2) (by decide +kernel) ?_
  refine lv_iconst (v := nI 1) hx hb dL_texts_458 (by decide +kernel) ?_
  refine lv_iadd hx hb dL_texts_459 ?_
  refine tI (y := nI 3) (by decide +kernel) ?_
  refine lv_icmp_ne (tgt := 477) hx hb dL_texts_460 (by decide) (fun h => absurd h (by decide +kernel)) (fun _ => ?_)
  refine lv_aload_n hx hb dL_texts_463 rfl (lv_at hl 1 rfl) ?_
  refine lv_bipush (v := nI 59) hx hb dL_texts_464 (by decide +kernel) ?_
  refine cx0 (st1 := [.int (nI (3 + 1))]) (va_runV (As := [.int (nI 59)]) (rest := []) ⟨hx, hb, hml, hown, hts⟩ (CX_append_ok l G hX hR (by decide) (by decide +kernel) 59 (by decide +kernel) (by decide +kernel)) (cwV 1 hts gL_texts_X5_append rfl rfl rfl (by decide +kernel) ⟨Nat.le_of_ble_eq_true rfl, Nat.le_of_ble_eq_true rfl⟩) (PJ.preV hE hJ.jx (xs_recv hE.1 hX (P_pre hP)) ⟨P_pre hP, D_tr (D_pre hD)⟩) rfl rfl hl.1 rfl (lv_room (Nat.le_of_ble_eq_true rfl)) dL_texts_466 ⟨Nat.le_of_ble_eq_true rfl, Nat.le_of_ble_eq_true rfl⟩) hP hD hS hJ0 hAl rfl (fun WC H locs hX hP hD hS hJ => ?_)
  have hR := PR_app (q := 59) hR (by decide) (by decide)
  rw [te_e27] at hX hR
  replace hX : XS G q0 (fnL L0) (fnL L0) ff2 0 0 4 (fnL te_T22) (nI 0) WC := hX
  replace hR : PR 20000 (fnL L0) (fnL L0) ff2 0 0 4 (fnL te_T22) (nI 0) := hR
  refine tI (y := nI 4) (by decide +kernel) ?_
  refine lv_iconst (v := nI 2) hx hb dL_texts_469 (by decide +kernel) ?_
  refine lv_iload_n hx hb dL_texts_470 rfl (lv_at hl 0 rfl) ?_
  refine lv_imul hx hb dL_texts_471 ?_
  refine tI (y := nI 2) (by decide +kernel) ?_
  refine lv_iconst (v := nI 2) hx hb dL_texts_472 (by decide +kernel) ?_
  refine lv_iadd hx hb dL_texts_473 ?_
  refine tI (y := nI 4) (by decide +kernel) ?_
  refine lv_icmp_eq (tgt := 479) hx hb dL_texts_474 (by decide) (fun _ => ?_) (fun h => absurd h (by decide +kernel))
  refine lv_iinc (v := nI 2) (lv' := [(1, .int (nI 2)), (0, .ref q0)]) hx hb dL_texts_479 hl (k := 0) rfl (by decide +kernel) (by decide) rfl (fun ls hl => ?_)
  refine lv_goto (tgt := 443) hx hb dL_texts_482 (by decide) ?_
  refine lv_iload_n hx hb dL_texts_443 rfl (lv_at hl 0 rfl) ?_
  refine lv_bipush (v := nI 30) hx hb dL_texts_444 (by decide +kernel) ?_
  refine lv_icmp_ge (tgt := 485) hx hb dL_texts_446 (by decide) (fun h => absurd h (by decide +kernel)) (fun _ => ?_)
  refine lv_aload_n hx hb dL_texts_449 rfl (lv_at hl 1 rfl) ?_
  refine lv_bipush (v := nI 120) hx hb dL_texts_450 (by decide +kernel) ?_
  refine cx0 (st1 := [.int (nI (4 + 1))]) (va_runV (As := [.int (nI 120)]) (rest := []) ⟨hx, hb, hml, hown, hts⟩ (CX_append_ok l G hX hR (by decide) (by decide +kernel) 120 (by decide +kernel) (by decide +kernel)) (cwV 1 hts gL_texts_X5_append rfl rfl rfl (by decide +kernel) ⟨Nat.le_of_ble_eq_true rfl, Nat.le_of_ble_eq_true rfl⟩) (PJ.preV hE hJ.jx (xs_recv hE.1 hX (P_pre hP)) ⟨P_pre hP, D_tr (D_pre hD)⟩) rfl rfl hl.1 rfl (lv_room (Nat.le_of_ble_eq_true rfl)) dL_texts_452 ⟨Nat.le_of_ble_eq_true rfl, Nat.le_of_ble_eq_true rfl⟩) hP hD hS hJ0 hAl rfl (fun WC H locs hX hP hD hS hJ => ?_)
  have hR := PR_app (q := 120) hR (by decide) (by decide)
  rw [te_e28] at hX hR
  replace hX : XS G q0 (fnL L0) (fnL L0) ff2 0 0 5 (fnL te_T23) (nI 0) WC := hX
  replace hR : PR 20000 (fnL L0) (fnL L0) ff2 0 0 5 (fnL te_T23) (nI 0) := hR
  refine tI (y := nI 5) (by decide +kernel) ?_
  refine lv_iconst (v := nI 2) hx hb dL_texts_455 (by decide +kernel) ?_
  refine lv_iload_n hx hb dL_texts_456 rfl (lv_at hl 0 rfl) ?_
  refine lv_imul hx hb dL_texts_457 ?_
  refine tI (y := nI 4) (by decide +kernel) ?_
  refine lv_iconst (v := nI 1) hx hb dL_texts_458 (by decide +kernel) ?_
  refine lv_iadd hx hb dL_texts_459 ?_
  refine tI (y := nI 5) (by decide +kernel) ?_
  refine lv_icmp_ne (tgt := 477) hx hb dL_texts_460 (by decide) (fun h => absurd h (by decide +kernel)) (fun _ => ?_)
  refine lv_aload_n hx hb dL_texts_463 rfl (lv_at hl 1 rfl) ?_
  refine lv_bipush (v := nI 59) hx hb dL_texts_464 (by decide +kernel) ?_
  refine cx0 (st1 := [.int (nI (5 + 1))]) (va_runV (As := [.int (nI 59)]) (rest := []) ⟨hx, hb, hml, hown, hts⟩ (CX_append_ok l G hX hR (by decide) (by decide +kernel) 59 (by decide +kernel) (by decide +kernel)) (cwV 1 hts gL_texts_X5_append rfl rfl rfl (by decide +kernel) ⟨Nat.le_of_ble_eq_true rfl, Nat.le_of_ble_eq_true rfl⟩) (PJ.preV hE hJ.jx (xs_recv hE.1 hX (P_pre hP)) ⟨P_pre hP, D_tr (D_pre hD)⟩) rfl rfl hl.1 rfl (lv_room (Nat.le_of_ble_eq_true rfl)) dL_texts_466 ⟨Nat.le_of_ble_eq_true rfl, Nat.le_of_ble_eq_true rfl⟩) hP hD hS hJ0 hAl rfl (fun WC H locs hX hP hD hS hJ => ?_)
  have hR := PR_app (q := 59) hR (by decide) (by decide)
  rw [te_e29] at hX hR
  replace hX : XS G q0 (fnL L0) (fnL L0) ff2 0 0 6 (fnL te_T24) (nI 0) WC := hX
  replace hR : PR 20000 (fnL L0) (fnL L0) ff2 0 0 6 (fnL te_T24) (nI 0) := hR
  refine tI (y := nI 6) (by decide +kernel) ?_
  refine lv_iconst (v := nI 2) hx hb dL_texts_469 (by decide +kernel) ?_
  refine lv_iload_n hx hb dL_texts_470 rfl (lv_at hl 0 rfl) ?_
  refine lv_imul hx hb dL_texts_471 ?_
  refine tI (y := nI 4) (by decide +kernel) ?_
  refine lv_iconst (v := nI 2) hx hb dL_texts_472 (by decide +kernel) ?_
  refine lv_iadd hx hb dL_texts_473 ?_
  refine tI (y := nI 6) (by decide +kernel) ?_
  refine lv_icmp_eq (tgt := 479) hx hb dL_texts_474 (by decide) (fun _ => ?_) (fun h => absurd h (by decide +kernel))
  refine lv_iinc (v := nI 3) (lv' := [(1, .int (nI 3)), (0, .ref q0)]) hx hb dL_texts_479 hl (k := 0) rfl (by decide +kernel) (by decide) rfl (fun ls hl => ?_)
  refine lv_goto (tgt := 443) hx hb dL_texts_482 (by decide) ?_
  refine lv_iload_n hx hb dL_texts_443 rfl (lv_at hl 0 rfl) ?_
  refine lv_bipush (v := nI 30) hx hb dL_texts_444 (by decide +kernel) ?_
  refine lv_icmp_ge (tgt := 485) hx hb dL_texts_446 (by decide) (fun h => absurd h (by decide +kernel)) (fun _ => ?_)
  refine lv_aload_n hx hb dL_texts_449 rfl (lv_at hl 1 rfl) ?_
  refine lv_bipush (v := nI 120) hx hb dL_texts_450 (by decide +kernel) ?_
  refine cx0 (st1 := [.int (nI (6 + 1))]) (va_runV (As := [.int (nI 120)]) (rest := []) ⟨hx, hb, hml, hown, hts⟩ (CX_append_ok l G hX hR (by decide) (by decide +kernel) 120 (by decide +kernel) (by decide +kernel)) (cwV 1 hts gL_texts_X5_append rfl rfl rfl (by decide +kernel) ⟨Nat.le_of_ble_eq_true rfl, Nat.le_of_ble_eq_true rfl⟩) (PJ.preV hE hJ.jx (xs_recv hE.1 hX (P_pre hP)) ⟨P_pre hP, D_tr (D_pre hD)⟩) rfl rfl hl.1 rfl (lv_room (Nat.le_of_ble_eq_true rfl)) dL_texts_452 ⟨Nat.le_of_ble_eq_true rfl, Nat.le_of_ble_eq_true rfl⟩) hP hD hS hJ0 hAl rfl (fun WC H locs hX hP hD hS hJ => ?_)
  have hR := PR_app (q := 120) hR (by decide) (by decide)
  rw [te_e30] at hX hR
  replace hX : XS G q0 (fnL L0) (fnL L0) ff2 0 0 7 (fnL te_T25) (nI 0) WC := hX
  replace hR : PR 20000 (fnL L0) (fnL L0) ff2 0 0 7 (fnL te_T25) (nI 0) := hR
  refine tI (y := nI 7) (by decide +kernel) ?_
  refine lv_iconst (v := nI 2) hx hb dL_texts_455 (by decide +kernel) ?_
  refine lv_iload_n hx hb dL_texts_456 rfl (lv_at hl 0 rfl) ?_
  refine lv_imul hx hb dL_texts_457 ?_
  refine tI (y := nI 6) (by decide +kernel) ?_
  refine lv_iconst (v := nI 1) hx hb dL_texts_458 (by decide +kernel) ?_
  refine lv_iadd hx hb dL_texts_459 ?_
  refine tI (y := nI 7) (by decide +kernel) ?_
  refine lv_icmp_ne (tgt := 477) hx hb dL_texts_460 (by decide) (fun h => absurd h (by decide +kernel)) (fun _ => ?_)
  refine lv_aload_n hx hb dL_texts_463 rfl (lv_at hl 1 rfl) ?_
  refine lv_bipush (v := nI 59) hx hb dL_texts_464 (by decide +kernel) ?_
  refine cx0 (st1 := [.int (nI (7 + 1))]) (va_runV (As := [.int (nI 59)]) (rest := []) ⟨hx, hb, hml, hown, hts⟩ (CX_append_ok l G hX hR (by decide) (by decide +kernel) 59 (by decide +kernel) (by decide +kernel)) (cwV 1 hts gL_texts_X5_append rfl rfl rfl (by decide +kernel) ⟨Nat.le_of_ble_eq_true rfl, Nat.le_of_ble_eq_true rfl⟩) (PJ.preV hE hJ.jx (xs_recv hE.1 hX (P_pre hP)) ⟨P_pre hP, D_tr (D_pre hD)⟩) rfl rfl hl.1 rfl (lv_room (Nat.le_of_ble_eq_true rfl)) dL_texts_466 ⟨Nat.le_of_ble_eq_true rfl, Nat.le_of_ble_eq_true rfl⟩) hP hD hS hJ0 hAl rfl (fun WC H locs hX hP hD hS hJ => ?_)
  have hR := PR_app (q := 59) hR (by decide) (by decide)
  rw [te_e31] at hX hR
  replace hX : XS G q0 (fnL L0) (fnL L0) ff2 0 0 8 (fnL te_T25) (nI 0) WC := hX
  replace hR : PR 20000 (fnL L0) (fnL L0) ff2 0 0 8 (fnL te_T25) (nI 0) := hR
  refine tI (y := nI 8) (by decide +kernel) ?_
  refine lv_iconst (v := nI 2) hx hb dL_texts_469 (by decide +kernel) ?_
  refine lv_iload_n hx hb dL_texts_470 rfl (lv_at hl 0 rfl) ?_
  refine lv_imul hx hb dL_texts_471 ?_
  refine tI (y := nI 6) (by decide +kernel) ?_
  refine lv_iconst (v := nI 2) hx hb dL_texts_472 (by decide +kernel) ?_
  refine lv_iadd hx hb dL_texts_473 ?_
  refine tI (y := nI 8) (by decide +kernel) ?_
  refine lv_icmp_eq (tgt := 479) hx hb dL_texts_474 (by decide) (fun _ => ?_) (fun h => absurd h (by decide +kernel))
  refine lv_iinc (v := nI 4) (lv' := [(1, .int (nI 4)), (0, .ref q0)]) hx hb dL_texts_479 hl (k := 0) rfl (by decide +kernel) (by decide) rfl (fun ls hl => ?_)
  refine lv_goto (tgt := 443) hx hb dL_texts_482 (by decide) ?_
  refine lv_iload_n hx hb dL_texts_443 rfl (lv_at hl 0 rfl) ?_
  refine lv_bipush (v := nI 30) hx hb dL_texts_444 (by decide +kernel) ?_
  refine lv_icmp_ge (tgt := 485) hx hb dL_texts_446 (by decide) (fun h => absurd h (by decide +kernel)) (fun _ => ?_)
  refine lv_aload_n hx hb dL_texts_449 rfl (lv_at hl 1 rfl) ?_
  refine lv_bipush (v := nI 120) hx hb dL_texts_450 (by decide +kernel) ?_
  refine cx0 (st1 := [.int (nI (8 + 1))]) (va_runV (As := [.int (nI 120)]) (rest := []) ⟨hx, hb, hml, hown, hts⟩ (CX_append_ok l G hX hR (by decide) (by decide +kernel) 120 (by decide +kernel) (by decide +kernel)) (cwV 1 hts gL_texts_X5_append rfl rfl rfl (by decide +kernel) ⟨Nat.le_of_ble_eq_true rfl, Nat.le_of_ble_eq_true rfl⟩) (PJ.preV hE hJ.jx (xs_recv hE.1 hX (P_pre hP)) ⟨P_pre hP, D_tr (D_pre hD)⟩) rfl rfl hl.1 rfl (lv_room (Nat.le_of_ble_eq_true rfl)) dL_texts_452 ⟨Nat.le_of_ble_eq_true rfl, Nat.le_of_ble_eq_true rfl⟩) hP hD hS hJ0 hAl rfl (fun WC H locs hX hP hD hS hJ => ?_)
  have hR := PR_app (q := 120) hR (by decide) (by decide)
  rw [te_e32] at hX hR
  replace hX : XS G q0 (fnL L0) (fnL L0) ff2 0 0 9 (fnL te_T26) (nI 0) WC := hX
  replace hR : PR 20000 (fnL L0) (fnL L0) ff2 0 0 9 (fnL te_T26) (nI 0) := hR
  refine tI (y := nI 9) (by decide +kernel) ?_
  refine lv_iconst (v := nI 2) hx hb dL_texts_455 (by decide +kernel) ?_
  refine lv_iload_n hx hb dL_texts_456 rfl (lv_at hl 0 rfl) ?_
  refine lv_imul hx hb dL_texts_457 ?_
  refine tI (y := nI 8) (by decide +kernel) ?_
  refine lv_iconst (v := nI 1) hx hb dL_texts_458 (by decide +kernel) ?_
  refine lv_iadd hx hb dL_texts_459 ?_
  refine tI (y := nI 9) (by decide +kernel) ?_
  refine lv_icmp_ne (tgt := 477) hx hb dL_texts_460 (by decide) (fun h => absurd h (by decide +kernel)) (fun _ => ?_)
  refine lv_aload_n hx hb dL_texts_463 rfl (lv_at hl 1 rfl) ?_
  refine lv_bipush (v := nI 59) hx hb dL_texts_464 (by decide +kernel) ?_
  refine cx0 (st1 := [.int (nI (9 + 1))]) (va_runV (As := [.int (nI 59)]) (rest := []) ⟨hx, hb, hml, hown, hts⟩ (CX_append_ok l G hX hR (by decide) (by decide +kernel) 59 (by decide +kernel) (by decide +kernel)) (cwV 1 hts gL_texts_X5_append rfl rfl rfl (by decide +kernel) ⟨Nat.le_of_ble_eq_true rfl, Nat.le_of_ble_eq_true rfl⟩) (PJ.preV hE hJ.jx (xs_recv hE.1 hX (P_pre hP)) ⟨P_pre hP, D_tr (D_pre hD)⟩) rfl rfl hl.1 rfl (lv_room (Nat.le_of_ble_eq_true rfl)) dL_texts_466 ⟨Nat.le_of_ble_eq_true rfl, Nat.le_of_ble_eq_true rfl⟩) hP hD hS hJ0 hAl rfl (fun WC H locs hX hP hD hS hJ => ?_)
  have hR := PR_app (q := 59) hR (by decide) (by decide)
  rw [te_e33] at hX hR
  replace hX : XS G q0 (fnL L0) (fnL L0) ff2 0 0 10 (fnL te_T27) (nI 0) WC := hX
  replace hR : PR 20000 (fnL L0) (fnL L0) ff2 0 0 10 (fnL te_T27) (nI 0) := hR
  refine tI (y := nI 10) (by decide +kernel) ?_
  refine lv_iconst (v := nI 2) hx hb dL_texts_469 (by decide +kernel) ?_
  refine lv_iload_n hx hb dL_texts_470 rfl (lv_at hl 0 rfl) ?_
  refine lv_imul hx hb dL_texts_471 ?_
  refine tI (y := nI 8) (by decide +kernel) ?_
  refine lv_iconst (v := nI 2) hx hb dL_texts_472 (by decide +kernel) ?_
  refine lv_iadd hx hb dL_texts_473 ?_
  refine tI (y := nI 10) (by decide +kernel) ?_
  refine lv_icmp_eq (tgt := 479) hx hb dL_texts_474 (by decide) (fun _ => ?_) (fun h => absurd h (by decide +kernel))
  refine lv_iinc (v := nI 5) (lv' := [(1, .int (nI 5)), (0, .ref q0)]) hx hb dL_texts_479 hl (k := 0) rfl (by decide +kernel) (by decide) rfl (fun ls hl => ?_)
  refine lv_goto (tgt := 443) hx hb dL_texts_482 (by decide) ?_
  refine lv_iload_n hx hb dL_texts_443 rfl (lv_at hl 0 rfl) ?_
  refine lv_bipush (v := nI 30) hx hb dL_texts_444 (by decide +kernel) ?_
  refine lv_icmp_ge (tgt := 485) hx hb dL_texts_446 (by decide) (fun h => absurd h (by decide +kernel)) (fun _ => ?_)
  refine lv_aload_n hx hb dL_texts_449 rfl (lv_at hl 1 rfl) ?_
  refine lv_bipush (v := nI 120) hx hb dL_texts_450 (by decide +kernel) ?_
  refine cx0 (st1 := [.int (nI (10 + 1))]) (va_runV (As := [.int (nI 120)]) (rest := []) ⟨hx, hb, hml, hown, hts⟩ (CX_append_ok l G hX hR (by decide) (by decide +kernel) 120 (by decide +kernel) (by decide +kernel)) (cwV 1 hts gL_texts_X5_append rfl rfl rfl (by decide +kernel) ⟨Nat.le_of_ble_eq_true rfl, Nat.le_of_ble_eq_true rfl⟩) (PJ.preV hE hJ.jx (xs_recv hE.1 hX (P_pre hP)) ⟨P_pre hP, D_tr (D_pre hD)⟩) rfl rfl hl.1 rfl (lv_room (Nat.le_of_ble_eq_true rfl)) dL_texts_452 ⟨Nat.le_of_ble_eq_true rfl, Nat.le_of_ble_eq_true rfl⟩) hP hD hS hJ0 hAl rfl (fun WC H locs hX hP hD hS hJ => ?_)
  have hR := PR_app (q := 120) hR (by decide) (by decide)
  rw [te_e34] at hX hR
  replace hX : XS G q0 (fnL L0) (fnL L0) ff2 0 0 11 (fnL te_T28) (nI 0) WC := hX
  replace hR : PR 20000 (fnL L0) (fnL L0) ff2 0 0 11 (fnL te_T28) (nI 0) := hR
  refine tI (y := nI 11) (by decide +kernel) ?_
  refine lv_iconst (v := nI 2) hx hb dL_texts_455 (by decide +kernel) ?_
  refine lv_iload_n hx hb dL_texts_456 rfl (lv_at hl 0 rfl) ?_
  refine lv_imul hx hb dL_texts_457 ?_
  refine tI (y := nI 10) (by decide +kernel) ?_
  refine lv_iconst (v := nI 1) hx hb dL_texts_458 (by decide +kernel) ?_
  refine lv_iadd hx hb dL_texts_459 ?_
  refine tI (y := nI 11) (by decide +kernel) ?_
  refine lv_icmp_ne (tgt := 477) hx hb dL_texts_460 (by decide) (fun h => absurd h (by decide +kernel)) (fun _ => ?_)
  refine lv_aload_n hx hb dL_texts_463 rfl (lv_at hl 1 rfl) ?_
  refine lv_bipush (v := nI 59) hx hb dL_texts_464 (by decide +kernel) ?_
  refine cx0 (st1 := [.int (nI (11 + 1))]) (va_runV (As := [.int (nI 59)]) (rest := []) ⟨hx, hb, hml, hown, hts⟩ (CX_append_ok l G hX hR (by decide) (by decide +kernel) 59 (by decide +kernel) (by decide +kernel)) (cwV 1 hts gL_texts_X5_append rfl rfl rfl (by decide +kernel) ⟨Nat.le_of_ble_eq_true rfl, Nat.le_of_ble_eq_true rfl⟩) (PJ.preV hE hJ.jx (xs_recv hE.1 hX (P_pre hP)) ⟨P_pre hP, D_tr (D_pre hD)⟩) rfl rfl hl.1 rfl (lv_room (Nat.le_of_ble_eq_true rfl)) dL_texts_466 ⟨Nat.le_of_ble_eq_true rfl, Nat.le_of_ble_eq_true rfl⟩) hP hD hS hJ0 hAl rfl (fun WC H locs hX hP hD hS hJ => ?_)
  have hR := PR_app (q := 59) hR (by decide) (by decide)
  rw [te_e35] at hX hR
  replace hX : XS G q0 (fnL L0) (fnL L0) ff2 0 0 12 (fnL te_T29) (nI 0) WC := hX
  replace hR : PR 20000 (fnL L0) (fnL L0) ff2 0 0 12 (fnL te_T29) (nI 0) := hR
  refine tI (y := nI 12) (by decide +kernel) ?_
  refine lv_iconst (v := nI 2) hx hb dL_texts_469 (by decide +kernel) ?_
  refine lv_iload_n hx hb dL_texts_470 rfl (lv_at hl 0 rfl) ?_
  refine lv_imul hx hb dL_texts_471 ?_
  refine tI (y := nI 10) (by decide +kernel) ?_
  refine lv_iconst (v := nI 2) hx hb dL_texts_472 (by decide +kernel) ?_
  refine lv_iadd hx hb dL_texts_473 ?_
  refine tI (y := nI 12) (by decide +kernel) ?_
  refine lv_icmp_eq (tgt := 479) hx hb dL_texts_474 (by decide) (fun _ => ?_) (fun h => absurd h (by decide +kernel))
  refine lv_iinc (v := nI 6) (lv' := [(1, .int (nI 6)), (0, .ref q0)]) hx hb dL_texts_479 hl (k := 0) rfl (by decide +kernel) (by decide) rfl (fun ls hl => ?_)
  refine lv_goto (tgt := 443) hx hb dL_texts_482 (by decide) ?_
  refine lv_iload_n hx hb dL_texts_443 rfl (lv_at hl 0 rfl) ?_
  refine lv_bipush (v := nI 30) hx hb dL_texts_444 (by decide +kernel) ?_
  refine lv_icmp_ge (tgt := 485) hx hb dL_texts_446 (by decide) (fun h => absurd h (by decide +kernel)) (fun _ => ?_)
  refine lv_aload_n hx hb dL_texts_449 rfl (lv_at hl 1 rfl) ?_
  refine lv_bipush (v := nI 120) hx hb dL_texts_450 (by decide +kernel) ?_
  refine cx0 (st1 := [.int (nI (12 + 1))]) (va_runV (As := [.int (nI 120)]) (rest := []) ⟨hx, hb, hml, hown, hts⟩ (CX_append_ok l G hX hR (by decide) (by decide +kernel) 120 (by decide +kernel) (by decide +kernel)) (cwV 1 hts gL_texts_X5_append rfl rfl rfl (by decide +kernel) ⟨Nat.le_of_ble_eq_true rfl, Nat.le_of_ble_eq_true rfl⟩) (PJ.preV hE hJ.jx (xs_recv hE.1 hX (P_pre hP)) ⟨P_pre hP, D_tr (D_pre hD)⟩) rfl rfl hl.1 rfl (lv_room (Nat.le_of_ble_eq_true rfl)) dL_texts_452 ⟨Nat.le_of_ble_eq_true rfl, Nat.le_of_ble_eq_true rfl⟩) hP hD hS hJ0 hAl rfl (fun WC H locs hX hP hD hS hJ => ?_)
  have hR := PR_app (q := 120) hR (by decide) (by decide)
  rw [te_e36] at hX hR
  replace hX : XS G q0 (fnL L0) (fnL L0) ff2 0 0 13 (fnL te_T30) (nI 0) WC := hX
  replace hR : PR 20000 (fnL L0) (fnL L0) ff2 0 0 13 (fnL te_T30) (nI 0) := hR
  refine tI (y := nI 13) (by decide +kernel) ?_
  refine lv_iconst (v := nI 2) hx hb dL_texts_455 (by decide +kernel) ?_
  refine lv_iload_n hx hb dL_texts_456 rfl (lv_at hl 0 rfl) ?_
  refine lv_imul hx hb dL_texts_457 ?_
  refine tI (y := nI 12) (by decide +kernel) ?_
  refine lv_iconst (v := nI 1) hx hb dL_texts_458 (by decide +kernel) ?_
  refine lv_iadd hx hb dL_texts_459 ?_
  refine tI (y := nI 13) (by decide +kernel) ?_
  refine lv_icmp_ne (tgt := 477) hx hb dL_texts_460 (by decide) (fun h => absurd h (by decide +kernel)) (fun _ => ?_)
  refine lv_aload_n hx hb dL_texts_463 rfl (lv_at hl 1 rfl) ?_
  refine lv_bipush (v := nI 59) hx hb dL_texts_464 (by decide +kernel) ?_
  refine cx0 (st1 := [.int (nI (13 + 1))]) (va_runV (As := [.int (nI 59)]) (rest := []) ⟨hx, hb, hml, hown, hts⟩ (CX_append_ok l G hX hR (by decide) (by decide +kernel) 59 (by decide +kernel) (by decide +kernel)) (cwV 1 hts gL_texts_X5_append rfl rfl rfl (by decide +kernel) ⟨Nat.le_of_ble_eq_true rfl, Nat.le_of_ble_eq_true rfl⟩) (PJ.preV hE hJ.jx (xs_recv hE.1 hX (P_pre hP)) ⟨P_pre hP, D_tr (D_pre hD)⟩) rfl rfl hl.1 rfl (lv_room (Nat.le_of_ble_eq_true rfl)) dL_texts_466 ⟨Nat.le_of_ble_eq_true rfl, Nat.le_of_ble_eq_true rfl⟩) hP hD hS hJ0 hAl rfl (fun WC H locs hX hP hD hS hJ => ?_)
  have hR := PR_app (q := 59) hR (by decide) (by decide)
  rw [te_e37] at hX hR
  replace hX : XS G q0 (fnL L0) (fnL L0) ff2 0 0 14 (fnL te_T31) (nI 0) WC := hX
  replace hR : PR 20000 (fnL L0) (fnL L0) ff2 0 0 14 (fnL te_T31) (nI 0) := hR
  refine tI (y := nI 14) (by decide +kernel) ?_
  refine lv_iconst (v := nI 2) hx hb dL_texts_469 (by decide +kernel) ?_
  refine lv_iload_n hx hb dL_texts_470 rfl (lv_at hl 0 rfl) ?_
  refine lv_imul hx hb dL_texts_471 ?_
  refine tI (y := nI 12) (by decide +kernel) ?_
  refine lv_iconst (v := nI 2) hx hb dL_texts_472 (by decide +kernel) ?_
  refine lv_iadd hx hb dL_texts_473 ?_
  refine tI (y := nI 14) (by decide +kernel) ?_
  refine lv_icmp_eq (tgt := 479) hx hb dL_texts_474 (by decide) (fun _ => ?_) (fun h => absurd h (by decide +kernel))
  refine lv_iinc (v := nI 7) (lv' := [(1, .int (nI 7)), (0, .ref q0)]) hx hb dL_texts_479 hl (k := 0) rfl (by decide +kernel) (by decide) rfl (fun ls hl => ?_)
  refine lv_goto (tgt := 443) hx hb dL_texts_482 (by decide) ?_
  refine lv_iload_n hx hb dL_texts_443 rfl (lv_at hl 0 rfl) ?_
  refine lv_bipush (v := nI 30) hx hb dL_texts_444 (by decide +kernel) ?_
  refine lv_icmp_ge (tgt := 485) hx hb dL_texts_446 (by decide) (fun h => absurd h (by decide +kernel)) (fun _ => ?_)
  refine lv_aload_n hx hb dL_texts_449 rfl (lv_at hl 1 rfl) ?_
  refine lv_bipush (v := nI 120) hx hb dL_texts_450 (by decide +kernel) ?_
  refine cx0 (st1 := [.int (nI (14 + 1))]) (va_runV (As := [.int (nI 120)]) (rest := []) ⟨hx, hb, hml, hown, hts⟩ (CX_append_ok l G hX hR (by decide) (by decide +kernel) 120 (by decide +kernel) (by decide +kernel)) (cwV 1 hts gL_texts_X5_append rfl rfl rfl (by decide +kernel) ⟨Nat.le_of_ble_eq_true rfl, Nat.le_of_ble_eq_true rfl⟩) (PJ.preV hE hJ.jx (xs_recv hE.1 hX (P_pre hP)) ⟨P_pre hP, D_tr (D_pre hD)⟩) rfl rfl hl.1 rfl (lv_room (Nat.le_of_ble_eq_true rfl)) dL_texts_452 ⟨Nat.le_of_ble_eq_true rfl, Nat.le_of_ble_eq_true rfl⟩) hP hD hS hJ0 hAl rfl (fun WC H locs hX hP hD hS hJ => ?_)
  have hR := PR_app (q := 120) hR (by decide) (by decide)
  rw [te_e38] at hX hR
  replace hX : XS G q0 (fnL L0) (fnL L0) ff2 0 0 15 (fnL te_T32) (nI 0) WC := hX
  replace hR : PR 20000 (fnL L0) (fnL L0) ff2 0 0 15 (fnL te_T32) (nI 0) := hR
  refine tI (y := nI 15) (by decide +kernel) ?_
  refine lv_iconst (v := nI 2) hx hb dL_texts_455 (by decide +kernel) ?_
  refine lv_iload_n hx hb dL_texts_456 rfl (lv_at hl 0 rfl) ?_
  refine lv_imul hx hb dL_texts_457 ?_
  refine tI (y := nI 14) (by decide +kernel) ?_
  refine lv_iconst (v := nI 1) hx hb dL_texts_458 (by decide +kernel) ?_
  refine lv_iadd hx hb dL_texts_459 ?_
  refine tI (y := nI 15) (by decide +kernel) ?_
  refine lv_icmp_ne (tgt := 477) hx hb dL_texts_460 (by decide) (fun h => absurd h (by decide +kernel)) (fun _ => ?_)
  refine lv_aload_n hx hb dL_texts_463 rfl (lv_at hl 1 rfl) ?_
  refine lv_bipush (v := nI 59) hx hb dL_texts_464 (by decide +kernel) ?_
  refine cx0 (st1 := [.int (nI (15 + 1))]) (va_runV (As := [.int (nI 59)]) (rest := []) ⟨hx, hb, hml, hown, hts⟩ (CX_append_ok l G hX hR (by decide) (by decide +kernel) 59 (by decide +kernel) (by decide +kernel)) (cwV 1 hts gL_texts_X5_append rfl rfl rfl (by decide +kernel) ⟨Nat.le_of_ble_eq_true rfl, Nat.le_of_ble_eq_true rfl⟩) (PJ.preV hE hJ.jx (xs_recv hE.1 hX (P_pre hP)) ⟨P_pre hP, D_tr (D_pre hD)⟩) rfl rfl hl.1 rfl (lv_room (Nat.le_of_ble_eq_true rfl)) dL_texts_466 ⟨Nat.le_of_ble_eq_true rfl, Nat.le_of_ble_eq_true rfl⟩) hP hD hS hJ0 hAl rfl (fun WC H locs hX hP hD hS hJ => ?_)
  have hR := PR_app (q := 59) hR (by decide) (by decide)
  rw [te_e39] at hX hR
  replace hX : XS G q0 (fnL L0) (fnL L0) ff2 0 0 16 (fnL te_T33) (nI 0) WC := hX
  replace hR : PR 20000 (fnL L0) (fnL L0) ff2 0 0 16 (fnL te_T33) (nI 0) := hR
  refine tI (y := nI 16) (by decide +kernel) ?_
  refine lv_iconst (v := nI 2) hx hb dL_texts_469 (by decide +kernel) ?_
  refine lv_iload_n hx hb dL_texts_470 rfl (lv_at hl 0 rfl) ?_
  refine lv_imul hx hb dL_texts_471 ?_
  refine tI (y := nI 14) (by decide +kernel) ?_
  refine lv_iconst (v := nI 2) hx hb dL_texts_472 (by decide +kernel) ?_
  refine lv_iadd hx hb dL_texts_473 ?_
  refine tI (y := nI 16) (by decide +kernel) ?_
  refine lv_icmp_eq (tgt := 479) hx hb dL_texts_474 (by decide) (fun _ => ?_) (fun h => absurd h (by decide +kernel))
  refine lv_iinc (v := nI 8) (lv' := [(1, .int (nI 8)), (0, .ref q0)]) hx hb dL_texts_479 hl (k := 0) rfl (by decide +kernel) (by decide) rfl (fun ls hl => ?_)
  refine lv_goto (tgt := 443) hx hb dL_texts_482 (by decide) ?_
  refine lv_iload_n hx hb dL_texts_443 rfl (lv_at hl 0 rfl) ?_
  refine lv_bipush (v := nI 30) hx hb dL_texts_444 (by decide +kernel) ?_
  refine lv_icmp_ge (tgt := 485) hx hb dL_texts_446 (by decide) (fun h => absurd h (by decide +kernel)) (fun _ => ?_)
  refine lv_aload_n hx hb dL_texts_449 rfl (lv_at hl 1 rfl) ?_
  refine lv_bipush (v := nI 120) hx hb dL_texts_450 (by decide +kernel) ?_
  refine cx0 (st1 := [.int (nI (16 + 1))]) (va_runV (As := [.int (nI 120)]) (rest := []) ⟨hx, hb, hml, hown, hts⟩ (CX_append_ok l G hX hR (by decide) (by decide +kernel) 120 (by decide +kernel) (by decide +kernel)) (cwV 1 hts gL_texts_X5_append rfl rfl rfl (by decide +kernel) ⟨Nat.le_of_ble_eq_true rfl, Nat.le_of_ble_eq_true rfl⟩) (PJ.preV hE hJ.jx (xs_recv hE.1 hX (P_pre hP)) ⟨P_pre hP, D_tr (D_pre hD)⟩) rfl rfl hl.1 rfl (lv_room (Nat.le_of_ble_eq_true rfl)) dL_texts_452 ⟨Nat.le_of_ble_eq_true rfl, Nat.le_of_ble_eq_true rfl⟩) hP hD hS hJ0 hAl rfl (fun WC H locs hX hP hD hS hJ => ?_)
  have hR := PR_app (q := 120) hR (by decide) (by decide)
  rw [te_e40] at hX hR
  replace hX : XS G q0 (fnL L0) (fnL L0) ff2 0 0 17 (fnL te_T34) (nI 0) WC := hX
  replace hR : PR 20000 (fnL L0) (fnL L0) ff2 0 0 17 (fnL te_T34) (nI 0) := hR
  refine tI (y := nI 17) (by decide +kernel) ?_
  refine lv_iconst (v := nI 2) hx hb dL_texts_455 (by decide +kernel) ?_
  refine lv_iload_n hx hb dL_texts_456 rfl (lv_at hl 0 rfl) ?_
  refine lv_imul hx hb dL_texts_457 ?_
  refine tI (y := nI 16) (by decide +kernel) ?_
  refine lv_iconst (v := nI 1) hx hb dL_texts_458 (by decide +kernel) ?_
  refine lv_iadd hx hb dL_texts_459 ?_
  refine tI (y := nI 17) (by decide +kernel) ?_
  refine lv_icmp_ne (tgt := 477) hx hb dL_texts_460 (by decide) (fun h => absurd h (by decide +kernel)) (fun _ => ?_)
  refine lv_aload_n hx hb dL_texts_463 rfl (lv_at hl 1 rfl) ?_
  refine lv_bipush (v := nI 59) hx hb dL_texts_464 (by decide +kernel) ?_
  refine cx0 (st1 := [.int (nI (17 + 1))]) (va_runV (As := [.int (nI 59)]) (rest := []) ⟨hx, hb, hml, hown, hts⟩ (CX_append_ok l G hX hR (by decide) (by decide +kernel) 59 (by decide +kernel) (by decide +kernel)) (cwV 1 hts gL_texts_X5_append rfl rfl rfl (by decide +kernel) ⟨Nat.le_of_ble_eq_true rfl, Nat.le_of_ble_eq_true rfl⟩) (PJ.preV hE hJ.jx (xs_recv hE.1 hX (P_pre hP)) ⟨P_pre hP, D_tr (D_pre hD)⟩) rfl rfl hl.1 rfl (lv_room (Nat.le_of_ble_eq_true rfl)) dL_texts_466 ⟨Nat.le_of_ble_eq_true rfl, Nat.le_of_ble_eq_true rfl⟩) hP hD hS hJ0 hAl rfl (fun WC H locs hX hP hD hS hJ => ?_)
  have hR := PR_app (q := 59) hR (by decide) (by decide)
  rw [te_e41] at hX hR
  replace hX : XS G q0 (fnL L0) (fnL L0) ff2 0 0 18 (fnL te_T35) (nI 0) WC := hX
  replace hR : PR 20000 (fnL L0) (fnL L0) ff2 0 0 18 (fnL te_T35) (nI 0) := hR
  refine tI (y := nI 18) (by decide +kernel) ?_
  refine lv_iconst (v := nI 2) hx hb dL_texts_469 (by decide +kernel) ?_
  refine lv_iload_n hx hb dL_texts_470 rfl (lv_at hl 0 rfl) ?_
  refine lv_imul hx hb dL_texts_471 ?_
  refine tI (y := nI 16) (by decide +kernel) ?_
  refine lv_iconst (v := nI 2) hx hb dL_texts_472 (by decide +kernel) ?_
  refine lv_iadd hx hb dL_texts_473 ?_
  refine tI (y := nI 18) (by decide +kernel) ?_
  refine lv_icmp_eq (tgt := 479) hx hb dL_texts_474 (by decide) (fun _ => ?_) (fun h => absurd h (by decide +kernel))
  refine lv_iinc (v := nI 9) (lv' := [(1, .int (nI 9)), (0, .ref q0)]) hx hb dL_texts_479 hl (k := 0) rfl (by decide +kernel) (by decide) rfl (fun ls hl => ?_)
  refine lv_goto (tgt := 443) hx hb dL_texts_482 (by decide) ?_
  refine lv_iload_n hx hb dL_texts_443 rfl (lv_at hl 0 rfl) ?_
  refine lv_bipush (v := nI 30) hx hb dL_texts_444 (by decide +kernel) ?_
  refine lv_icmp_ge (tgt := 485) hx hb dL_texts_446 (by decide) (fun h => absurd h (by decide +kernel)) (fun _ => ?_)
  refine lv_aload_n hx hb dL_texts_449 rfl (lv_at hl 1 rfl) ?_
  refine lv_bipush (v := nI 120) hx hb dL_texts_450 (by decide +kernel) ?_
  refine cx0 (st1 := [.int (nI (18 + 1))]) (va_runV (As := [.int (nI 120)]) (rest := []) ⟨hx, hb, hml, hown, hts⟩ (CX_append_ok l G hX hR (by decide) (by decide +kernel) 120 (by decide +kernel) (by decide +kernel)) (cwV 1 hts gL_texts_X5_append rfl rfl rfl (by decide +kernel) ⟨Nat.le_of_ble_eq_true rfl, Nat.le_of_ble_eq_true rfl⟩) (PJ.preV hE hJ.jx (xs_recv hE.1 hX (P_pre hP)) ⟨P_pre hP, D_tr (D_pre hD)⟩) rfl rfl hl.1 rfl (lv_room (Nat.le_of_ble_eq_true rfl)) dL_texts_452 ⟨Nat.le_of_ble_eq_true rfl, Nat.le_of_ble_eq_true rfl⟩) hP hD hS hJ0 hAl rfl (fun WC H locs hX hP hD hS hJ => ?_)
  have hR := PR_app (q := 120) hR (by decide) (by decide)
  rw [te_e42] at hX hR
  replace hX : XS G q0 (fnL L0) (fnL L0) ff2 0 0 19 (fnL te_T36) (nI 0) WC := hX
  replace hR : PR 20000 (fnL L0) (fnL L0) ff2 0 0 19 (fnL te_T36) (nI 0) := hR
  refine tI (y := nI 19) (by decide +kernel) ?_
  refine lv_iconst (v := nI 2) hx hb dL_texts_455 (by decide +kernel) ?_
  refine lv_iload_n hx hb dL_texts_456 rfl (lv_at hl 0 rfl) ?_
  refine lv_imul hx hb dL_texts_457 ?_
  refine tI (y := nI 18) (by decide +kernel) ?_
  refine lv_iconst (v := nI 1) hx hb dL_texts_458 (by decide +kernel) ?_
  refine lv_iadd hx hb dL_texts_459 ?_
  refine tI (y := nI 19) (by decide +kernel) ?_
  refine lv_icmp_ne (tgt := 477) hx hb dL_texts_460 (by decide) (fun h => absurd h (by decide +kernel)) (fun _ => ?_)
  refine lv_aload_n hx hb dL_texts_463 rfl (lv_at hl 1 rfl) ?_
  refine lv_bipush (v := nI 59) hx hb dL_texts_464 (by decide +kernel) ?_
  refine cx0 (st1 := [.int (nI (19 + 1))]) (va_runV (As := [.int (nI 59)]) (rest := []) ⟨hx, hb, hml, hown, hts⟩ (CX_append_ok l G hX hR (by decide) (by decide +kernel) 59 (by decide +kernel) (by decide +kernel)) (cwV 1 hts gL_texts_X5_append rfl rfl rfl (by decide +kernel) ⟨Nat.le_of_ble_eq_true rfl, Nat.le_of_ble_eq_true rfl⟩) (PJ.preV hE hJ.jx (xs_recv hE.1 hX (P_pre hP)) ⟨P_pre hP, D_tr (D_pre hD)⟩) rfl rfl hl.1 rfl (lv_room (Nat.le_of_ble_eq_true rfl)) dL_texts_466 ⟨Nat.le_of_ble_eq_true rfl, Nat.le_of_ble_eq_true rfl⟩) hP hD hS hJ0 hAl rfl (fun WC H locs hX hP hD hS hJ => ?_)
  have hR := PR_app (q := 59) hR (by decide) (by decide)
  rw [te_e43] at hX hR
  replace hX : XS G q0 (fnL L0) (fnL L0) ff2 0 0 20 (fnL te_T37) (nI 0) WC := hX
  replace hR : PR 20000 (fnL L0) (fnL L0) ff2 0 0 20 (fnL te_T37) (nI 0) := hR
  refine tI (y := nI 20) (by decide +kernel) ?_
  refine lv_iconst (v := nI 2) hx hb dL_texts_469 (by decide +kernel) ?_
  refine lv_iload_n hx hb dL_texts_470 rfl (lv_at hl 0 rfl) ?_
  refine lv_imul hx hb dL_texts_471 ?_
  refine tI (y := nI 18) (by decide +kernel) ?_
  refine lv_iconst (v := nI 2) hx hb dL_texts_472 (by decide +kernel) ?_
  refine lv_iadd hx hb dL_texts_473 ?_
  refine tI (y := nI 20) (by decide +kernel) ?_
  refine lv_icmp_eq (tgt := 479) hx hb dL_texts_474 (by decide) (fun _ => ?_) (fun h => absurd h (by decide +kernel))
  exact te_s5 hlt hL9 hX hR hP hD hS hl

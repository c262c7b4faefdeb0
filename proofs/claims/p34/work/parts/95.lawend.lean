set_option maxHeartbeats 8000000 in
set_option maxRecDepth 100000 in
theorem law_undo {p : Program} {l : Launch} {e : Env} {s : State} {m : MethodId} {below : List Frame} {meth : Method} {c : Code} {b L : Nat} {xs : Nat → Int32} {G : eG} {cJ : ClassId} {Q : State → Prop} {fe q B acts old cells slots : Nat} {fs : Nat → Nat → Int32} {ff : Nat → Nat → Int32} {g : Nat → Int64} {kept : Int64} (hlt : l.stackTraces = false) (hL : LX p s m c b L xs G cJ) (hB : B < 700000000) (hacts : acts ≤ 28) (hg : ∀ i, i ≤ acts → g i = seenF (fs i)) (hc1 : cells + 1 ≤ 600130) (hs1 : slots + 6 ≤ 7301080) (hQ : ∀ (f : Nat → Int32) (sz : Nat) (WC : va_W) (H : Heap) (locs : List Loc) (ls : Array Slot), sz ≤ 6 → LD s G cJ fe q B f ff old sz g WC H locs → lv_has ls 14 [(4, .long kept), (1, .ref fe), (0, .ref b)] → W p l e room_1 s m #[Value.ref b] below meth c H locs cells slots Q (F0 m 473 ls [])) :
    ∀ (sz k : Nat) (f : Nat → Int32) (WC : va_W) (H : Heap) (locs : List Loc) (ls : Array Slot), k + sz ≤ 6 → k ≤ acts → f = fs (acts - k) → (∀ j, j < sz → j < acts - k → ff ((old + (sz - 1 - j)) % 6) = fs (acts - k - 1 - j)) → LD s G cJ fe q B f ff old sz g WC H locs → lv_has ls 14 [(6, .int (nI k)), (3, .int (nI acts)), (4, .long kept), (2, .ref q), (1, .ref fe), (0, .ref b)] → W p l e room_1 s m #[Value.ref b] below meth c H locs cells slots Q (F0 m 411 ls []) := by
  obtain ⟨hx, hb, hml, hown, hts, hE, hJ0, hKJ, hXs, hbl, hLL⟩ := hL
  have hAl : ∀ q, AA s q → s.heap.size ≤ q := fun _ h => h
  intro sz
  induction sz with
  | zero =>
    intro k f WC H locs ls h6 hka hf hrg hD hl
    obtain ⟨hX, hR, hP, hD, hS⟩ := hD
    have hJ : JB s.heap.size s _ := hJ0.S hAl hS
    refine lv_aload_n hx hb dL_law_411 rfl (lv_at hl 4 rfl) ?_
    refine lv_bipush (v := nI 13) hx hb dL_law_412 (by decide +kernel) ?_
    refine cx0 (st1 := [.int (fCnt f 0 13)]) (va_runV (As := [.int (nI 13)]) (rest := []) ⟨hx, hb, hml, hown, hts⟩ (CX_count_ok l G hX hR (by omega) 13 (by decide)) (cwV 1 hts gL_law_X5_count rfl rfl rfl (by decide +kernel) ⟨Nat.le_of_ble_eq_true rfl, Nat.le_of_ble_eq_true rfl⟩) (PJ.preV hE hJ.jx (xs_recv hE.1 hX (P_pre hP)) ⟨P_pre hP, D_tr (D_pre hD)⟩) rfl rfl hl.1 rfl (lv_room (Nat.le_of_ble_eq_true rfl)) dL_law_414 ⟨by show _ + 0 ≤ 600130; omega, by show _ + 0 ≤ 7301080; omega⟩) hP hD hS hJ0 hAl rfl (fun WC H locs hX hP hD hS hJ => ?_)
    refine tI (y := nI 0) rfl ?_
    refine lv_if_le (tgt := 473) hx hb dL_law_417 (by decide) (fun _ => ?_) (fun h => absurd h (by decide +kernel))
    exact hQ f 0 WC H locs ls (by decide) ⟨hX, hR, hP, hD, hS⟩ (lv_sub hl [2, 4, 5] rfl)
  | succ sz ih =>
    intro k f WC H locs ls h6 hka hf hrg hD hl
    obtain ⟨hX, hR, hP, hD, hS⟩ := hD
    have hJ : JB s.heap.size s _ := hJ0.S hAl hS
    refine lv_aload_n hx hb dL_law_411 rfl (lv_at hl 4 rfl) ?_
    refine lv_bipush (v := nI 13) hx hb dL_law_412 (by decide +kernel) ?_
    refine cx0 (st1 := [.int (fCnt f (sz + 1) 13)]) (va_runV (As := [.int (nI 13)]) (rest := []) ⟨hx, hb, hml, hown, hts⟩ (CX_count_ok l G hX hR (by omega) 13 (by decide)) (cwV 1 hts gL_law_X5_count rfl rfl rfl (by decide +kernel) ⟨Nat.le_of_ble_eq_true rfl, Nat.le_of_ble_eq_true rfl⟩) (PJ.preV hE hJ.jx (xs_recv hE.1 hX (P_pre hP)) ⟨P_pre hP, D_tr (D_pre hD)⟩) rfl rfl hl.1 rfl (lv_room (Nat.le_of_ble_eq_true rfl)) dL_law_414 ⟨by show _ + 0 ≤ 600130; omega, by show _ + 0 ≤ 7301080; omega⟩) hP hD hS hJ0 hAl rfl (fun WC H locs hX hP hD hS hJ => ?_)
    refine tI (y := nI (sz + 1)) rfl ?_
    refine if_leN (tgt := 473) hx hb (by omega) dL_law_417 (by decide) (fun h => absurd h (by omega)) (fun _ => ?_)
    refine lv_iload hx hb dL_law_420 (lv_at hl 0 rfl) ?_
    refine lv_iload_n hx hb dL_law_422 rfl (lv_at hl 1 rfl) ?_
    refine icmp_geN (tgt := 473) hx hb (by omega) (by omega) dL_law_423 (by decide) (fun _ => ?_) (fun hka2 => ?_)
    · exact hQ f (sz + 1) WC H locs ls (by omega) ⟨hX, hR, hP, hD, hS⟩ (lv_sub hl [2, 4, 5] rfl)
    · skip
      refine lv_aload_n hx hb dL_law_426 rfl (lv_at hl 4 rfl) ?_
      refine lv_bipush (v := nI 13) hx hb dL_law_427 (by decide +kernel) ?_
      refine cx0 (st1 := [.int (fCnt f (sz + 1) 13)]) (va_runV (As := [.int (nI 13)]) (rest := []) ⟨hx, hb, hml, hown, hts⟩ (CX_count_ok l G hX hR (by omega) 13 (by decide)) (cwV 1 hts gL_law_X5_count rfl rfl rfl (by decide +kernel) ⟨Nat.le_of_ble_eq_true rfl, Nat.le_of_ble_eq_true rfl⟩) (PJ.preV hE hJ.jx (xs_recv hE.1 hX (P_pre hP)) ⟨P_pre hP, D_tr (D_pre hD)⟩) rfl rfl hl.1 rfl (lv_room (Nat.le_of_ble_eq_true rfl)) dL_law_429 ⟨by show _ + 0 ≤ 600130; omega, by show _ + 0 ≤ 7301080; omega⟩) hP hD hS hJ0 hAl rfl (fun WC H locs hX hP hD hS hJ => ?_)
      refine tI (y := nI (sz + 1)) rfl ?_
      refine lv_istore (lv' := [(7, .int (nI (sz + 1))), (6, .int (nI k)), (3, .int (nI acts)), (4, .long kept), (2, .ref q), (1, .ref fe), (0, .ref b)]) hx hb dL_law_432 hl (by decide) rfl (fun ls hl => ?_)
      refine lv_iload hx hb dL_law_434 (lv_at hl 1 rfl) ?_
      refine lv_iconst (v := nI 5) hx hb dL_law_436 (by decide +kernel) ?_
      refine icmp_gtN (tgt := 465) hx hb (by omega) (by decide) dL_law_437 (by decide) (fun h => absurd h (by omega)) (fun _ => ?_)
      refine lv_aload_n hx hb dL_law_440 rfl (lv_at hl 5 rfl) ?_
      refine cx0 (st1 := [.long (seenF f)]) (va_runS (As := [.ref fe]) (rest := []) ⟨hx, hb, hml, hown, hts⟩ (K_seen l G hX hR (by omega)) (va_cwS 1 hts gL_law_L_seen rfl rfl rfl (by decide +kernel) ⟨Nat.le_of_ble_eq_true rfl, Nat.le_of_ble_eq_true rfl⟩) (PK.preS hE hJ ⟨P_pre hP, D_al hAl (D_pre hD)⟩) rfl rfl hl.1 rfl (lv_room (Nat.le_of_ble_eq_true rfl)) dL_law_441 ⟨by show _ + 0 ≤ 600130; omega, by show _ + 0 ≤ 7301080; omega⟩) hP hD hS hJ0 hAl rfl (fun WC H locs hX hP hD hS hJ => ?_)
      refine lv_aload_n hx hb dL_law_444 rfl (lv_at hl 4 rfl) ?_
      refine lv_iload_n hx hb dL_law_445 rfl (lv_at hl 2 rfl) ?_
      refine lv_iload hx hb dL_law_446 (lv_at hl 1 rfl) ?_
      refine isubN hx hb (by omega) dL_law_448 ?_
      refine va_lald hx hb hKJ (P_perm List.perm_append_comm hP) 0 0 rfl rfl (vp_in_nI (n := acts - k) (N := 64) (by omega) (by decide)) dL_law_449 ?_
      refine tS (st' := [.long (seenF f), .long (seenF f)]) (by rw [nI_clamp (by omega), hg (acts - k) (by omega), ← hf]) ?_
      refine lv_lcmpE hx hb dL_law_450 ?_
      refine lv_if_ne (tgt := 465) hx hb dL_law_451 (by decide) (fun h => absurd h (by decide +kernel)) (fun _ => ?_)
      refine lv_aload_n hx hb dL_law_454 rfl (lv_at hl 5 rfl) ?_
      refine cx0 (st1 := [.int (nI (sz + 1 - 1))]) (va_runV (As := []) (rest := []) ⟨hx, hb, hml, hown, hts⟩ (CX_undo_ok l G hX hR (by omega) (by omega)) (cwV 0 hts gL_law_X5_undo rfl rfl rfl (by decide +kernel) ⟨Nat.le_of_ble_eq_true rfl, Nat.le_of_ble_eq_true rfl⟩) (PJ.preV hE hJ.jx (xs_recv hE.1 hX (P_pre hP)) ⟨P_pre hP, D_tr (D_pre hD)⟩) rfl rfl hl.1 rfl (lv_room (Nat.le_of_ble_eq_true rfl)) dL_law_455 ⟨by show _ + 0 ≤ 600130; omega, by show _ + 0 ≤ 7301080; omega⟩) hP hD hS hJ0 hAl rfl (fun WC H locs hX hP hD hS hJ => ?_)
      refine lv_iload hx hb dL_law_458 (lv_at hl 0 rfl) ?_
      refine lv_iconst (v := nI 1) hx hb dL_law_460 (by decide +kernel) ?_
      refine isubN hx hb (by omega) dL_law_461 ?_
      refine lv_icmp_eq (tgt := 467) hx hb dL_law_462 (by decide) (fun _ => ?_) (fun h => absurd rfl h)
      refine lv_iinc (v := nI (k + 1)) (lv' := [(6, .int (nI (k + 1))), (7, .int (nI (sz + 1))), (3, .int (nI acts)), (4, .long kept), (2, .ref q), (1, .ref fe), (0, .ref b)]) hx hb dL_law_467 hl (k := 1) rfl (nI_inc1 _) (by decide) rfl (fun ls hl => ?_)
      refine lv_goto (tgt := 411) hx hb dL_law_470 (by decide) ?_
      have e1 : hBk old (sz + 1) = (old + (sz + 1 - 1 - 0)) % 6 := rfl
      have e2 := hrg 0 (by omega) (by omega)
      refine ih (k + 1) (ff (hBk old (sz + 1))) WC H locs ls (by omega) (by omega) ?_ (fun j hj hja => ?_) ⟨hX, PR_sz (z := sz + 1 - 1) (by omega) (PR_f hR (hR.2.2.1 _ (Nat.mod_lt _ (by decide)))), hP, hD, hS⟩ (lv_sub hl [0, 2, 3, 4, 5, 6] rfl)
      · rw [e1, e2, show acts - k - 1 - 0 = acts - (k + 1) by omega]
      · have e3 := hrg (j + 1) (by omega) (by omega)
        rw [show (old + (sz - 1 - j)) % 6 = (old + (sz + 1 - 1 - (j + 1))) % 6 by omega, e3, show acts - k - 1 - (j + 1) = acts - (k + 1) - 1 - j by omega]
set_option maxHeartbeats 8000000 in
set_option maxRecDepth 100000 in
theorem law_undo2 {p : Program} {l : Launch} {e : Env} {s : State} {m : MethodId} {below : List Frame} {meth : Method} {c : Code} {b L : Nat} {xs : Nat → Int32} {G : eG} {cJ : ClassId} {Q : State → Prop} {fe q B old cells slots : Nat} {ff : Nat → Nat → Int32} {g : Nat → Int64} {kept : Int64} (hL : LX p s m c b L xs G cJ) (hB : B < 700000000) (hc1 : cells + 1 ≤ 600130) (hs1 : slots + 6 ≤ 7301080) (hQ : ∀ (f : Nat → Int32) (WC : va_W) (H : Heap) (locs : List Loc) (ls : Array Slot), LD s G cJ fe q B f ff old 0 g WC H locs → lv_has ls 14 [(4, .long kept), (1, .ref fe), (0, .ref b)] → W p l e room_1 s m #[Value.ref b] below meth c H locs cells slots Q (F0 m 491 ls [])) :
    ∀ (sz : Nat) (f : Nat → Int32) (WC : va_W) (H : Heap) (locs : List Loc) (ls : Array Slot), sz ≤ 6 → LD s G cJ fe q B f ff old sz g WC H locs → lv_has ls 14 [(4, .long kept), (1, .ref fe), (0, .ref b)] → W p l e room_1 s m #[Value.ref b] below meth c H locs cells slots Q (F0 m 473 ls []) := by
  obtain ⟨hx, hb, hml, hown, hts, hE, hJ0, hKJ, hXs, hbl, hLL⟩ := hL
  have hAl : ∀ q, AA s q → s.heap.size ≤ q := fun _ h => h
  intro sz
  induction sz with
  | zero =>
    intro f WC H locs ls h6 hD hl
    obtain ⟨hX, hR, hP, hD, hS⟩ := hD
    have hJ : JB s.heap.size s _ := hJ0.S hAl hS
    refine lv_aload_n hx hb dL_law_473 rfl (lv_at hl 1 rfl) ?_
    refine lv_bipush (v := nI 13) hx hb dL_law_474 (by decide +kernel) ?_
    refine cx0 (st1 := [.int (fCnt f 0 13)]) (va_runV (As := [.int (nI 13)]) (rest := []) ⟨hx, hb, hml, hown, hts⟩ (CX_count_ok l G hX hR (by omega) 13 (by decide)) (cwV 1 hts gL_law_X5_count rfl rfl rfl (by decide +kernel) ⟨Nat.le_of_ble_eq_true rfl, Nat.le_of_ble_eq_true rfl⟩) (PJ.preV hE hJ.jx (xs_recv hE.1 hX (P_pre hP)) ⟨P_pre hP, D_tr (D_pre hD)⟩) rfl rfl hl.1 rfl (lv_room (Nat.le_of_ble_eq_true rfl)) dL_law_476 ⟨by show _ + 0 ≤ 600130; omega, by show _ + 0 ≤ 7301080; omega⟩) hP hD hS hJ0 hAl rfl (fun WC H locs hX hP hD hS hJ => ?_)
    refine tI (y := nI 0) rfl ?_
    refine lv_if_le (tgt := 491) hx hb dL_law_479 (by decide) (fun _ => ?_) (fun h => absurd h (by decide +kernel))
    exact hQ f WC H locs ls ⟨hX, hR, hP, hD, hS⟩ hl
  | succ sz ih =>
    intro f WC H locs ls h6 hD hl
    obtain ⟨hX, hR, hP, hD, hS⟩ := hD
    have hJ : JB s.heap.size s _ := hJ0.S hAl hS
    refine lv_aload_n hx hb dL_law_473 rfl (lv_at hl 1 rfl) ?_
    refine lv_bipush (v := nI 13) hx hb dL_law_474 (by decide +kernel) ?_
    refine cx0 (st1 := [.int (fCnt f (sz + 1) 13)]) (va_runV (As := [.int (nI 13)]) (rest := []) ⟨hx, hb, hml, hown, hts⟩ (CX_count_ok l G hX hR (by omega) 13 (by decide)) (cwV 1 hts gL_law_X5_count rfl rfl rfl (by decide +kernel) ⟨Nat.le_of_ble_eq_true rfl, Nat.le_of_ble_eq_true rfl⟩) (PJ.preV hE hJ.jx (xs_recv hE.1 hX (P_pre hP)) ⟨P_pre hP, D_tr (D_pre hD)⟩) rfl rfl hl.1 rfl (lv_room (Nat.le_of_ble_eq_true rfl)) dL_law_476 ⟨by show _ + 0 ≤ 600130; omega, by show _ + 0 ≤ 7301080; omega⟩) hP hD hS hJ0 hAl rfl (fun WC H locs hX hP hD hS hJ => ?_)
    refine tI (y := nI (sz + 1)) rfl ?_
    refine if_leN (tgt := 491) hx hb (by omega) dL_law_479 (by decide) (fun h => absurd h (by omega)) (fun _ => ?_)
    refine lv_aload_n hx hb dL_law_482 rfl (lv_at hl 1 rfl) ?_
    refine cx0 (st1 := [.int (nI (sz + 1 - 1))]) (va_runV (As := []) (rest := []) ⟨hx, hb, hml, hown, hts⟩ (CX_undo_ok l G hX hR (by omega) (by omega)) (cwV 0 hts gL_law_X5_undo rfl rfl rfl (by decide +kernel) ⟨Nat.le_of_ble_eq_true rfl, Nat.le_of_ble_eq_true rfl⟩) (PJ.preV hE hJ.jx (xs_recv hE.1 hX (P_pre hP)) ⟨P_pre hP, D_tr (D_pre hD)⟩) rfl rfl hl.1 rfl (lv_room (Nat.le_of_ble_eq_true rfl)) dL_law_483 ⟨by show _ + 0 ≤ 600130; omega, by show _ + 0 ≤ 7301080; omega⟩) hP hD hS hJ0 hAl rfl (fun WC H locs hX hP hD hS hJ => ?_)
    refine lv_if_ge (tgt := 473) hx hb dL_law_486 (by decide) (fun _ => ?_) (fun h => absurd (nI_pos' (by omega)) h)
    exact ih (ff (hBk old (sz + 1))) WC H locs ls (by omega) ⟨hX, PR_sz (z := sz + 1 - 1) (by omega) (PR_f hR (hR.2.2.1 _ (Nat.mod_lt _ (by decide)))), hP, hD, hS⟩ hl
set_option maxHeartbeats 8000000 in
set_option maxRecDepth 100000 in
theorem law_end {p : Program} {l : Launch} {e : Env} {s : State} {m : MethodId} {below : List Frame} {meth : Method} {c : Code} {b L : Nat} {xs : Nat → Int32} {G : eG} {cJ : ClassId} {Q : State → Prop} {fe q B old cells slots : Nat} {f : Nat → Int32} {ff : Nat → Nat → Int32} {g : Nat → Int64} {WC : va_W} {H : Heap} {locs : List Loc} {ls : Array Slot} (hlt : l.stackTraces = false) (hL : LX p s m c b L xs G cJ) (hB : B + 20000 < 700000000) (hc1 : cells + 1 ≤ 600130) (hs1 : slots + 6 ≤ 7301080) (hQ : ∀ (H : Heap) (locs : List Loc) (ls : Array Slot), va_S (AA s) s.heap H locs → W p l e room_1 s m #[Value.ref b] below meth c H locs (cells + 1) (slots + 6) Q (F0 m 551 ls [])) (hD : LD s G cJ fe q B f ff old 0 g WC H locs) (hl : lv_has ls 14 [(4, .long (seenF (fnL LSN))), (1, .ref fe), (0, .ref b)]) : W p l e room_1 s m #[Value.ref b] below meth c H locs cells slots Q (F0 m 491 ls []) := by
  obtain ⟨hx, hb, hml, hown, hts, hE, hJ0, hKJ, hXs, hbl, hLL⟩ := hL
  have hAl : ∀ q, AA s q → s.heap.size ≤ q := fun _ h => h
  obtain ⟨hX, hR, hP, hD, hS⟩ := hD
  have hJ : JB s.heap.size s _ := hJ0.S hAl hS
  refine lv_aload_n hx hb dL_law_491 rfl (lv_at hl 1 rfl) ?_
  refine lv_bipush (v := nI 11) hx hb dL_law_492 (by decide +kernel) ?_
  refine lv_iconst (v := nI 0) hx hb dL_law_494 (by decide +kernel) ?_
  refine lv_iconst (v := nI 0) hx hb dL_law_495 (by decide +kernel) ?_
  refine cxc (st1 := [.int (-13)]) (vx_runSW (As := [.ref fe, .int (nI 11), .int (nI 0), .int (nI 0)]) (rest := []) ⟨hx, hb, hml, hown, hts⟩ (CC_undo_e1 l hlt G hX hR (by omega) rfl (nI 0) (nI 0)) (vx_cwSW 4 hts gL_law_L_call rfl rfl rfl (by decide +kernel) ⟨Nat.le_of_ble_eq_true rfl, Nat.le_of_ble_eq_true rfl⟩) (PK.preS hE hJ ⟨P_pre hP, D_al hAl (D_pre hD)⟩) rfl rfl hl.1 rfl (lv_room (Nat.le_of_ble_eq_true rfl)) dL_law_496 ⟨by show cells + 1 ≤ 600130; omega, by show slots + 6 ≤ 7301080; omega⟩) hP hD hS hJ0 hAl rfl (fun WC H locs hX hP hD hS hJ => ?_)
  refine lv_bipush (v := -13) hx hb dL_law_499 (by decide +kernel) ?_
  refine lv_icmp_ne (tgt := 555) hx hb dL_law_501 (by decide) (fun h => absurd h (by decide +kernel)) (fun _ => ?_)
  refine lv_aload_n hx hb dL_law_504 rfl (lv_at hl 1 rfl) ?_
  refine cx0 (st1 := [.int (fnL LSN 50)]) (va_runV (As := []) (rest := []) ⟨hx, hb, hml, hown, hts⟩ (CX_goBack_ok l G hX hR (by omega) ) (cwV 0 hts gL_law_X5_goBack rfl rfl rfl (by decide +kernel) ⟨Nat.le_of_ble_eq_true rfl, Nat.le_of_ble_eq_true rfl⟩) (PJ.preV hE hJ.jx (xs_recv hE.1 hX (P_pre hP)) ⟨P_pre hP, D_tr (D_pre hD)⟩) rfl rfl hl.1 rfl (lv_room (Nat.le_of_ble_eq_true rfl)) dL_law_505 ⟨by show _ + 0 ≤ 600130; omega, by show _ + 0 ≤ 7301080; omega⟩) hP hD hS hJ0 hAl rfl (fun WC H locs hX hP hD hS hJ => ?_)
  have hR := PR_sav (B' := B + 10000) (f' := fnL LSN) (by omega) hR (okf_mono (by omega) hR.2.1)
  refine tI (y := nI 0) (by decide +kernel) ?_
  refine lv_if_ne (tgt := 555) hx hb dL_law_508 (by decide) (fun h => absurd h (by decide +kernel)) (fun _ => ?_)
  refine lv_aload_n hx hb dL_law_511 rfl (lv_at hl 1 rfl) ?_
  refine lv_iconst (v := nI 3) hx hb dL_law_512 (by decide +kernel) ?_
  refine cx0 (st1 := [.int (fCnt (fnL LSN) (svM 0) 3)]) (va_runV (As := [.int (nI 3)]) (rest := []) ⟨hx, hb, hml, hown, hts⟩ (CX_count_ok l G hX hR (by omega) 3 (by decide)) (cwV 1 hts gL_law_X5_count rfl rfl rfl (by decide +kernel) ⟨Nat.le_of_ble_eq_true rfl, Nat.le_of_ble_eq_true rfl⟩) (PJ.preV hE hJ.jx (xs_recv hE.1 hX (P_pre hP)) ⟨P_pre hP, D_tr (D_pre hD)⟩) rfl rfl hl.1 rfl (lv_room (Nat.le_of_ble_eq_true rfl)) dL_law_513 ⟨by show _ + 0 ≤ 600130; omega, by show _ + 0 ≤ 7301080; omega⟩) hP hD hS hJ0 hAl rfl (fun WC H locs hX hP hD hS hJ => ?_)
  refine tI (y := nI 9) (by decide +kernel) ?_
  refine lv_bipush (v := nI 9) hx hb dL_law_516 (by decide +kernel) ?_
  refine lv_icmp_ne (tgt := 555) hx hb dL_law_518 (by decide) (fun h => absurd h (by decide +kernel)) (fun _ => ?_)
  refine lv_aload_n hx hb dL_law_521 rfl (lv_at hl 1 rfl) ?_
  refine lv_iconst (v := nI 1) hx hb dL_law_522 (by decide +kernel) ?_
  refine lv_iconst (v := nI 0) hx hb dL_law_523 (by decide +kernel) ?_
  refine cx0 (st1 := [.int (fnL LSN (((57 + (11 * 1)) + 1) + 0))]) (va_runV (As := [.int (nI 1), .int (nI 0)]) (rest := []) ⟨hx, hb, hml, hown, hts⟩ (CX_waiting_in l G hX hR (by omega) 1 0 (by decide) (by decide) (by decide +kernel)) (cwV 2 hts gL_law_X5_waiting rfl rfl rfl (by decide +kernel) ⟨Nat.le_of_ble_eq_true rfl, Nat.le_of_ble_eq_true rfl⟩) (PJ.preV hE hJ.jx (xs_recv hE.1 hX (P_pre hP)) ⟨P_pre hP, D_tr (D_pre hD)⟩) rfl rfl hl.1 rfl (lv_room (Nat.le_of_ble_eq_true rfl)) dL_law_524 ⟨by show _ + 0 ≤ 600130; omega, by show _ + 0 ≤ 7301080; omega⟩) hP hD hS hJ0 hAl rfl (fun WC H locs hX hP hD hS hJ => ?_)
  refine tI (y := nI 4) (by decide +kernel) ?_
  refine lv_iconst (v := nI 4) hx hb dL_law_527 (by decide +kernel) ?_
  refine lv_icmp_ne (tgt := 555) hx hb dL_law_528 (by decide) (fun h => absurd h (by decide +kernel)) (fun _ => ?_)
  refine lv_aload_n hx hb dL_law_531 rfl (lv_at hl 1 rfl) ?_
  refine cx0 (st1 := [.long (seenF (fnL LSN))]) (va_runS (As := [.ref fe]) (rest := []) ⟨hx, hb, hml, hown, hts⟩ (K_seen l G hX hR (by omega)) (va_cwS 1 hts gL_law_L_seen rfl rfl rfl (by decide +kernel) ⟨Nat.le_of_ble_eq_true rfl, Nat.le_of_ble_eq_true rfl⟩) (PK.preS hE hJ ⟨P_pre hP, D_al hAl (D_pre hD)⟩) rfl rfl hl.1 rfl (lv_room (Nat.le_of_ble_eq_true rfl)) dL_law_532 ⟨by show _ + 0 ≤ 600130; omega, by show _ + 0 ≤ 7301080; omega⟩) hP hD hS hJ0 hAl rfl (fun WC H locs hX hP hD hS hJ => ?_)
  refine lv_lload hx hb dL_law_535 (lv_at hl 0 rfl) ?_
  refine lv_lcmpE hx hb dL_law_537 ?_
  refine lv_if_ne (tgt := 555) hx hb dL_law_538 (by decide) (fun h => absurd h (by decide +kernel)) (fun _ => ?_)
  refine lv_aload_n hx hb dL_law_541 rfl (lv_at hl 1 rfl) ?_
  refine lv_bipush (v := nI 13) hx hb dL_law_542 (by decide +kernel) ?_
  refine cx0 (st1 := [.int (fCnt (fnL LSN) (svM 0) 13)]) (va_runV (As := [.int (nI 13)]) (rest := []) ⟨hx, hb, hml, hown, hts⟩ (CX_count_ok l G hX hR (by omega) 13 (by decide)) (cwV 1 hts gL_law_X5_count rfl rfl rfl (by decide +kernel) ⟨Nat.le_of_ble_eq_true rfl, Nat.le_of_ble_eq_true rfl⟩) (PJ.preV hE hJ.jx (xs_recv hE.1 hX (P_pre hP)) ⟨P_pre hP, D_tr (D_pre hD)⟩) rfl rfl hl.1 rfl (lv_room (Nat.le_of_ble_eq_true rfl)) dL_law_544 ⟨by show _ + 0 ≤ 600130; omega, by show _ + 0 ≤ 7301080; omega⟩) hP hD hS hJ0 hAl rfl (fun WC H locs hX hP hD hS hJ => ?_)
  refine tI (y := nI 1) (by decide +kernel) ?_
  refine lv_iconst (v := nI 1) hx hb dL_law_547 (by decide +kernel) ?_
  refine lv_icmp_ne (tgt := 555) hx hb dL_law_548 (by decide) (fun h => absurd h (by decide +kernel)) (fun _ => ?_)
  exact hQ H locs ls hS

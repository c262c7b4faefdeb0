set_option maxHeartbeats 4000000 in
set_option maxRecDepth 100000 in
theorem seg_append_e1 {p : Program} {l : Launch} {e : Env} {s : State} {m : MethodId} {below : List Frame} {meth : Method} {c : Code} {b L : Nat} {xs : Nat → Int32} {G : eG} {cJ : ClassId} {Q : State → Prop} (hlt : l.stackTraces = false) (hL : LX p s m c b L xs G cJ) {fe ob ou B i : Nat} {f sf : Nat → Int32} {ff : Nat → Nat → Int32} {old sz len : Nat} {tx : Nat → Int32} {hsn thr : Int32} {lo : Nat → Int64} {WC MC : va_W} {H : Heap} {locs : List Loc} {ls : Array Slot} {cells slots : Nat} (hD : LD s G cJ b fe ob ou B f sf ff old sz len tx hsn thr lo WC MC H locs ls i) (hi : i + 4 ≤ L) (hLL : L ≤ 2048) (hB : B + 10000 < 700000000) (hc1 : cells + 1 ≤ 601024) (hs1 : slots + 6 ≤ 7293034) (hNo : ¬ (nI 33 ≤ (xs (i + 1)) ∧ (xs (i + 1)) ≤ nI 126))  (kk : ∀ (f sf : Nat → Int32) (ff : Nat → Nat → Int32) (old sz len : Nat) (tx : Nat → Int32) (hsn thr : Int32) (lo : Nat → Int64) (WC MC : va_W) (H : Heap) (locs : List Loc) (ls : Array Slot), LD s G cJ b fe ob ou (B + 10000) f sf ff old sz len tx hsn thr lo WC MC H locs ls i → W p l e room_1 s m #[Value.ref b] below meth c H locs (cells + 1) (slots + 6) Q (F0 m 1491 ls [])) : W p l e room_1 s m #[Value.ref b] below meth c H locs cells slots Q (F0 m 605 ls []) := by
  obtain ⟨hx, hb, hml, hown, hts, hE, hJ0, hKJ, hXs, hbl⟩ := hL
  obtain ⟨hX, hR, hM, hP, hDD, hS, hl⟩ := hD
  have hbA : ¬ AA s b := Nat.not_le.mpr hbl
  have hJ : JX s H := hJ0.kept (fun a ha => hS.2.1 a ha (Nat.not_le.mpr ha))
  refine lv_aload_n hx hb dL_law_605 rfl (lv_at hl 1 rfl) ?_
  refine lv_aload_n hx hb dL_law_606 rfl (lv_at hl 0 rfl) ?_
  refine lv_iload hx hb dL_law_607 (lv_at hl 4 rfl) ?_
  refine lv_iconst (v := nI 1) hx hb dL_law_609 (by decide +kernel) ?_
  refine iaddN hx hb dL_law_610 ?_
  refine va_sld hx hb hXs hbl hbA hS (vp_in_nI (n := i + 1) (by omega) (by omega)) dL_law_611 ?_
  refine tS (st' := [.int (xs (i + 1)), .ref fe]) (by rw [nI_clamp (by omega)]) ?_
  refine lv_aload_n hx hb dL_law_612 rfl (lv_at hl 3 rfl) ?_
  have hPw : va_P G.1 vwCl (WC ++ MC) H := P_pre (P_perm List.perm_append_comm hP)
  have hDw : va_D (AA s) (WC ++ MC) := D_pre (D_perm List.perm_append_comm hDD)
  refine mcall (st1 := [.int (nI 1)]) (vx_runSW (As := [.ref fe, .int (xs (i + 1)), .ref ou]) (rest := []) ⟨hx, hb, hml, hown, hts⟩ (CL_append_e1 l hlt G cJ hX hR (by omega) (xs (i + 1)) hNo) (vx_cwSW 3 hts gL_law_L_append rfl rfl rfl (by decide +kernel) ⟨Nat.le_of_ble_eq_true rfl, Nat.le_of_ble_eq_true rfl⟩) (PL.preS hE hJ hKJ ⟨P_pre hPw, (D_pre hDw).weaken (fun _ _ _ _ => trivial)⟩) rfl rfl hl.1 rfl (lv_room (Nat.le_of_ble_eq_true rfl)) dL_law_613 ⟨by show cells + 1 ≤ 601024; omega, by show slots + 6 ≤ 7293034; omega⟩) hS (fun q _ h => (h : False).elim) (fun q h => (h : False).elim) rfl (fun H1 locs1 hB9 hz9 hk1 hS => ?_)
  have hP2 := P_kept hP (fun a ha => hk1 a ha (fun h => h))
  generalize H1 = H at hP2 hS ⊢
  replace hJ : JX s H := hJ0.kept (fun a ha => hS.2.1 a ha (Nat.not_le.mpr ha))
  have hPa : va_P G.1 vwCl (([(ou, .inl (cJ, 1, .inr (.inl lo)))] ++ WC) ++ MC) H := by rw [List.append_assoc]; exact hP2
  have hDa : va_D (AA s) (([(ou, .inl (cJ, 1, .inr (.inl lo)))] ++ WC) ++ MC) := by rw [List.append_assoc]; exact hDD
  have hPb : va_P G.1 vwCl (MC ++ ([(ou, .inl (cJ, 1, .inr (.inl lo)))] ++ WC)) H := P_perm List.perm_append_comm hPa
  have hDb : va_D (AA s) (MC ++ ([(ou, .inl (cJ, 1, .inr (.inl lo)))] ++ WC)) := D_perm List.perm_append_comm hDa
  refine lv_istore (lv' := [(5, .int (nI 1)), (0, .ref b), (1, .ref fe), (2, .ref ob), (3, .ref ou), (4, .int (nI i))]) hx hb dL_law_616 hl (by decide) rfl (fun ls hl => ?_)
  refine lv_aload_n hx hb dL_law_618 rfl (lv_at hl 3 rfl) ?_
  refine lv_aload_n hx hb dL_law_619 rfl (lv_at hl 1 rfl) ?_
  refine lv_iload hx hb dL_law_620 (lv_at hl 5 rfl) ?_
  refine lv_iconst (v := nI 1) hx hb dL_law_622 (by decide +kernel) ?_
  refine iaddN hx hb dL_law_623 ?_
  refine va_sld hx hb hXs hbl hbA hS (vp_in_nI (n := i + 1) (by omega) (by omega)) dL_law_624 ?_
  refine tS (st' := [.int (xs (i + 1)), .ref ob]) (by rw [nI_clamp (by omega)]) ?_
  refine mcall (st1 := [.int (nI 0)]) (va_runV (As := [.int (xs (i + 1))]) (rest := []) ⟨hx, hb, hml, hown, hts⟩ (MX_append_e1 l G hM hR (by omega) (xs (i + 1)) hNo) (cwV 1 hts gL_law_X6_append rfl rfl rfl (by decide +kernel) ⟨Nat.le_of_ble_eq_true rfl, Nat.le_of_ble_eq_true rfl⟩) (PJ.preV hE hJ (rs_recv hE.1 hM (P_pre hPb)) ⟨P_pre hPb, (D_pre hDb).weaken (fun _ _ _ _ => trivial)⟩) rfl rfl hl.1 rfl (lv_room (Nat.le_of_ble_eq_true rfl)) dL_law_625 ⟨by show _ + 0 ≤ 601024; omega, by show _ + 0 ≤ 7293034; omega⟩) hS (fun q _ h => inW_D (D_pre hDb) q h) (fun q h => inW_D (D_pre hDb) q h) rfl (fun H1 locs1 hB9 hz9 hk1 hS => ?_)
  obtain ⟨MC', hM', hP1, hD1⟩ := hB9
  obtain ⟨hP3, hD3⟩ := jnF (w1 := MC') hPb hDb hk1 hP1 hD1
  generalize H1 = H at hP3 hS ⊢
  refine lv_istore (lv' := [(6, .int (nI 0)), (5, .int (nI 1)), (0, .ref b), (1, .ref fe), (2, .ref ob), (3, .ref ou), (4, .int (nI i))]) hx hb dL_law_628 hl (by decide) rfl (fun ls hl => ?_)
  refine lv_aload_n hx hb dL_law_630 rfl (lv_at hl 4 rfl) ?_
  refine pcall (st1 := [.int (nI 1)]) (va_runV (As := []) (rest := []) ⟨hx, hb, hml, hown, hts⟩ (MX_thrown l G hM') (cwV 0 hts gL_law_X6_thrown rfl rfl rfl (by decide +kernel) ⟨Nat.le_of_ble_eq_true rfl, Nat.le_of_ble_eq_true rfl⟩) (PC.preV hE (rs_recv hE.1 hM' (P_pre hP3)) (P_pre hP3)) rfl rfl hl.1 rfl (lv_room (Nat.le_of_ble_eq_true rfl)) dL_law_631 ⟨by show _ + 0 ≤ 601024; omega, by show _ + 0 ≤ 7293034; omega⟩) rfl ?_
  refine lv_iload hx hb dL_law_634 (lv_at hl 1 rfl) ?_
  refine icmp_eqN (tgt := 641) hx hb (by decide) (by decide) dL_law_636 (by decide) (fun _ => ?_) (fun h => absurd rfl h)
  refine lv_iload hx hb dL_law_641 (lv_at hl 1 rfl) ?_
  refine if_neN (tgt := 658) hx hb (by decide) dL_law_643 (by decide) (fun _ => ?_) (fun h => absurd h (by decide))
  refine lv_goto (tgt := 1491) hx hb dL_law_658 (by decide) ?_
  refine W.widen (k := cells + 1) (n := slots + 6) (by omega) (by omega) ?_
  have hP4 : va_P G.1 vwCl ([(ou, .inl (cJ, 1, .inr (.inl lo)))] ++ (WC ++ MC')) H := P_perm ((List.perm_append_comm).trans (by rw [List.append_assoc])) hP3
  have hD4 : va_D (AA s) ([(ou, .inl (cJ, 1, .inr (.inl lo)))] ++ (WC ++ MC')) := D_perm ((List.perm_append_comm).trans (by rw [List.append_assoc])) hD3
  exact kk _ _ _ _ _ _ _ _ _ _ _ _ _ _ _ ⟨hX, PR_mono (by omega) hR, hM', hP4, hD4, hS, lv_sub hl [2, 3, 4, 5, 6] rfl⟩
set_option maxHeartbeats 4000000 in
set_option maxRecDepth 100000 in
theorem seg_append_e2 {p : Program} {l : Launch} {e : Env} {s : State} {m : MethodId} {below : List Frame} {meth : Method} {c : Code} {b L : Nat} {xs : Nat → Int32} {G : eG} {cJ : ClassId} {Q : State → Prop} (hlt : l.stackTraces = false) (hL : LX p s m c b L xs G cJ) {fe ob ou B i : Nat} {f sf : Nat → Int32} {ff : Nat → Nat → Int32} {old sz len : Nat} {tx : Nat → Int32} {hsn thr : Int32} {lo : Nat → Int64} {WC MC : va_W} {H : Heap} {locs : List Loc} {ls : Array Slot} {cells slots : Nat} (hD : LD s G cJ b fe ob ou B f sf ff old sz len tx hsn thr lo WC MC H locs ls i) (hi : i + 4 ≤ L) (hLL : L ≤ 2048) (hB : B + 10000 < 700000000) (hc1 : cells + 1 ≤ 601024) (hs1 : slots + 6 ≤ 7293034) (hlen : len = 60) (q : Nat) (h1 : 33 ≤ q) (h2 : q ≤ 126) (e1 : xs (i + 1) = nI q) (kk : ∀ (f sf : Nat → Int32) (ff : Nat → Nat → Int32) (old sz len : Nat) (tx : Nat → Int32) (hsn thr : Int32) (lo : Nat → Int64) (WC MC : va_W) (H : Heap) (locs : List Loc) (ls : Array Slot), LD s G cJ b fe ob ou (B + 10000) f sf ff old sz len tx hsn thr lo WC MC H locs ls i → W p l e room_1 s m #[Value.ref b] below meth c H locs (cells + 1) (slots + 6) Q (F0 m 1491 ls [])) : W p l e room_1 s m #[Value.ref b] below meth c H locs cells slots Q (F0 m 605 ls []) := by
  obtain ⟨hx, hb, hml, hown, hts, hE, hJ0, hKJ, hXs, hbl⟩ := hL
  obtain ⟨hX, hR, hM, hP, hDD, hS, hl⟩ := hD
  have hbA : ¬ AA s b := Nat.not_le.mpr hbl
  have hJ : JX s H := hJ0.kept (fun a ha => hS.2.1 a ha (Nat.not_le.mpr ha))
  refine lv_aload_n hx hb dL_law_605 rfl (lv_at hl 1 rfl) ?_
  refine lv_aload_n hx hb dL_law_606 rfl (lv_at hl 0 rfl) ?_
  refine lv_iload hx hb dL_law_607 (lv_at hl 4 rfl) ?_
  refine lv_iconst (v := nI 1) hx hb dL_law_609 (by decide +kernel) ?_
  refine iaddN hx hb dL_law_610 ?_
  refine va_sld hx hb hXs hbl hbA hS (vp_in_nI (n := i + 1) (by omega) (by omega)) dL_law_611 ?_
  refine tS (st' := [.int (nI q), .ref fe]) (by rw [nI_clamp (by omega), e1]) ?_
  refine lv_aload_n hx hb dL_law_612 rfl (lv_at hl 3 rfl) ?_
  have hPw : va_P G.1 vwCl (WC ++ MC) H := P_pre (P_perm List.perm_append_comm hP)
  have hDw : va_D (AA s) (WC ++ MC) := D_pre (D_perm List.perm_append_comm hDD)
  refine mcall (st1 := [.int (nI 2)]) (vx_runSW (As := [.ref fe, .int (nI q), .ref ou]) (rest := []) ⟨hx, hb, hml, hown, hts⟩ (CL_append_e2 l hlt G cJ hX hR (by omega) hlen q h1 h2) (vx_cwSW 3 hts gL_law_L_append rfl rfl rfl (by decide +kernel) ⟨Nat.le_of_ble_eq_true rfl, Nat.le_of_ble_eq_true rfl⟩) (PL.preS hE hJ hKJ ⟨P_pre hPw, (D_pre hDw).weaken (fun _ _ _ _ => trivial)⟩) rfl rfl hl.1 rfl (lv_room (Nat.le_of_ble_eq_true rfl)) dL_law_613 ⟨by show cells + 1 ≤ 601024; omega, by show slots + 6 ≤ 7293034; omega⟩) hS (fun q _ h => (h : False).elim) (fun q h => (h : False).elim) rfl (fun H1 locs1 hB9 hz9 hk1 hS => ?_)
  have hP2 := P_kept hP (fun a ha => hk1 a ha (fun h => h))
  generalize H1 = H at hP2 hS ⊢
  replace hJ : JX s H := hJ0.kept (fun a ha => hS.2.1 a ha (Nat.not_le.mpr ha))
  have hPa : va_P G.1 vwCl (([(ou, .inl (cJ, 1, .inr (.inl lo)))] ++ WC) ++ MC) H := by rw [List.append_assoc]; exact hP2
  have hDa : va_D (AA s) (([(ou, .inl (cJ, 1, .inr (.inl lo)))] ++ WC) ++ MC) := by rw [List.append_assoc]; exact hDD
  have hPb : va_P G.1 vwCl (MC ++ ([(ou, .inl (cJ, 1, .inr (.inl lo)))] ++ WC)) H := P_perm List.perm_append_comm hPa
  have hDb : va_D (AA s) (MC ++ ([(ou, .inl (cJ, 1, .inr (.inl lo)))] ++ WC)) := D_perm List.perm_append_comm hDa
  refine lv_istore (lv' := [(5, .int (nI 2)), (0, .ref b), (1, .ref fe), (2, .ref ob), (3, .ref ou), (4, .int (nI i))]) hx hb dL_law_616 hl (by decide) rfl (fun ls hl => ?_)
  refine lv_aload_n hx hb dL_law_618 rfl (lv_at hl 3 rfl) ?_
  refine lv_aload_n hx hb dL_law_619 rfl (lv_at hl 1 rfl) ?_
  refine lv_iload hx hb dL_law_620 (lv_at hl 5 rfl) ?_
  refine lv_iconst (v := nI 1) hx hb dL_law_622 (by decide +kernel) ?_
  refine iaddN hx hb dL_law_623 ?_
  refine va_sld hx hb hXs hbl hbA hS (vp_in_nI (n := i + 1) (by omega) (by omega)) dL_law_624 ?_
  refine tS (st' := [.int (nI q), .ref ob]) (by rw [nI_clamp (by omega), e1]) ?_
  refine mcall (st1 := [.int (nI 0)]) (va_runV (As := [.int (nI q)]) (rest := []) ⟨hx, hb, hml, hown, hts⟩ (MX_append_e2 l G hM hR (by omega) q h1 h2 hlen) (cwV 1 hts gL_law_X6_append rfl rfl rfl (by decide +kernel) ⟨Nat.le_of_ble_eq_true rfl, Nat.le_of_ble_eq_true rfl⟩) (PJ.preV hE hJ (rs_recv hE.1 hM (P_pre hPb)) ⟨P_pre hPb, (D_pre hDb).weaken (fun _ _ _ _ => trivial)⟩) rfl rfl hl.1 rfl (lv_room (Nat.le_of_ble_eq_true rfl)) dL_law_625 ⟨by show _ + 0 ≤ 601024; omega, by show _ + 0 ≤ 7293034; omega⟩) hS (fun q _ h => inW_D (D_pre hDb) q h) (fun q h => inW_D (D_pre hDb) q h) rfl (fun H1 locs1 hB9 hz9 hk1 hS => ?_)
  obtain ⟨MC', hM', hP1, hD1⟩ := hB9
  obtain ⟨hP3, hD3⟩ := jnF (w1 := MC') hPb hDb hk1 hP1 hD1
  generalize H1 = H at hP3 hS ⊢
  refine lv_istore (lv' := [(6, .int (nI 0)), (5, .int (nI 2)), (0, .ref b), (1, .ref fe), (2, .ref ob), (3, .ref ou), (4, .int (nI i))]) hx hb dL_law_628 hl (by decide) rfl (fun ls hl => ?_)
  refine lv_aload_n hx hb dL_law_630 rfl (lv_at hl 4 rfl) ?_
  refine pcall (st1 := [.int (nI 2)]) (va_runV (As := []) (rest := []) ⟨hx, hb, hml, hown, hts⟩ (MX_thrown l G hM') (cwV 0 hts gL_law_X6_thrown rfl rfl rfl (by decide +kernel) ⟨Nat.le_of_ble_eq_true rfl, Nat.le_of_ble_eq_true rfl⟩) (PC.preV hE (rs_recv hE.1 hM' (P_pre hP3)) (P_pre hP3)) rfl rfl hl.1 rfl (lv_room (Nat.le_of_ble_eq_true rfl)) dL_law_631 ⟨by show _ + 0 ≤ 601024; omega, by show _ + 0 ≤ 7293034; omega⟩) rfl ?_
  refine lv_iload hx hb dL_law_634 (lv_at hl 1 rfl) ?_
  refine icmp_eqN (tgt := 641) hx hb (by decide) (by decide) dL_law_636 (by decide) (fun _ => ?_) (fun h => absurd rfl h)
  refine lv_iload hx hb dL_law_641 (lv_at hl 1 rfl) ?_
  refine if_neN (tgt := 658) hx hb (by decide) dL_law_643 (by decide) (fun _ => ?_) (fun h => absurd h (by decide))
  refine lv_goto (tgt := 1491) hx hb dL_law_658 (by decide) ?_
  refine W.widen (k := cells + 1) (n := slots + 6) (by omega) (by omega) ?_
  have hP4 : va_P G.1 vwCl ([(ou, .inl (cJ, 1, .inr (.inl lo)))] ++ (WC ++ MC')) H := P_perm ((List.perm_append_comm).trans (by rw [List.append_assoc])) hP3
  have hD4 : va_D (AA s) ([(ou, .inl (cJ, 1, .inr (.inl lo)))] ++ (WC ++ MC')) := D_perm ((List.perm_append_comm).trans (by rw [List.append_assoc])) hD3
  exact kk _ _ _ _ _ _ _ _ _ _ _ _ _ _ _ ⟨hX, PR_mono (by omega) hR, hM', hP4, hD4, hS, lv_sub hl [2, 3, 4, 5, 6] rfl⟩
set_option maxHeartbeats 4000000 in
set_option maxRecDepth 100000 in
theorem seg_clearBuffer {p : Program} {l : Launch} {e : Env} {s : State} {m : MethodId} {below : List Frame} {meth : Method} {c : Code} {b L : Nat} {xs : Nat → Int32} {G : eG} {cJ : ClassId} {Q : State → Prop} (hlt : l.stackTraces = false) (hL : LX p s m c b L xs G cJ) {fe ob ou B i : Nat} {f sf : Nat → Int32} {ff : Nat → Nat → Int32} {old sz len : Nat} {tx : Nat → Int32} {hsn thr : Int32} {lo : Nat → Int64} {WC MC : va_W} {H : Heap} {locs : List Loc} {ls : Array Slot} {cells slots : Nat} (hD : LD s G cJ b fe ob ou B f sf ff old sz len tx hsn thr lo WC MC H locs ls i) (hi : i + 4 ≤ L) (hLL : L ≤ 2048) (hB : B + 10000 < 700000000) (hc1 : cells + 1 ≤ 601024) (hs1 : slots + 6 ≤ 7293034)   (kk : ∀ (f sf : Nat → Int32) (ff : Nat → Nat → Int32) (old sz len : Nat) (tx : Nat → Int32) (hsn thr : Int32) (lo : Nat → Int64) (WC MC : va_W) (H : Heap) (locs : List Loc) (ls : Array Slot), LD s G cJ b fe ob ou (B + 10000) f sf ff old sz len tx hsn thr lo WC MC H locs ls i → W p l e room_1 s m #[Value.ref b] below meth c H locs (cells + 1) (slots + 6) Q (F0 m 1491 ls [])) : W p l e room_1 s m #[Value.ref b] below meth c H locs cells slots Q (F0 m 661 ls []) := by
  obtain ⟨hx, hb, hml, hown, hts, hE, hJ0, hKJ, hXs, hbl⟩ := hL
  obtain ⟨hX, hR, hM, hP, hDD, hS, hl⟩ := hD
  have hbA : ¬ AA s b := Nat.not_le.mpr hbl
  have hJ : JX s H := hJ0.kept (fun a ha => hS.2.1 a ha (Nat.not_le.mpr ha))
  refine lv_aload_n hx hb dL_law_661 rfl (lv_at hl 1 rfl) ?_
  have hPa : va_P G.1 vwCl (WC ++ (MC ++ [(ou, .inl (cJ, 1, .inr (.inl lo)))])) H := P_perm ((List.perm_append_comm).trans (by rw [List.append_assoc])) hP
  have hDa : va_D (AA s) (WC ++ (MC ++ [(ou, .inl (cJ, 1, .inr (.inl lo)))])) := D_perm ((List.perm_append_comm).trans (by rw [List.append_assoc])) hDD
  refine mcall (st1 := [.int (nI len)]) (va_runV (As := []) (rest := []) ⟨hx, hb, hml, hown, hts⟩ (CX_clearBuffer l G hX hR (by omega) ) (cwV 0 hts gL_law_X5_clearBuffer rfl rfl rfl (by decide +kernel) ⟨Nat.le_of_ble_eq_true rfl, Nat.le_of_ble_eq_true rfl⟩) (PJ.preV hE hJ (xs_recv hE.1 hX (P_pre hPa)) ⟨P_pre hPa, (D_pre hDa).weaken (fun _ _ _ _ => trivial)⟩) rfl rfl hl.1 rfl (lv_room (Nat.le_of_ble_eq_true rfl)) dL_law_662 ⟨by show cells + 0 ≤ 601024; omega, by show slots + 0 ≤ 7293034; omega⟩) hS (fun q _ h => inW_D (D_pre hDa) q h) (fun q h => inW_D (D_pre hDa) q h) rfl (fun H1 locs1 hB9 hz9 hk1 hS => ?_)
  obtain ⟨WC', hX', hP1, hD1⟩ := hB9
  obtain ⟨hP2, hD2⟩ := jnF (w1 := WC') hPa hDa hk1 hP1 hD1
  generalize H1 = H at hP2 hS ⊢
  replace hJ : JX s H := hJ0.kept (fun a ha => hS.2.1 a ha (Nat.not_le.mpr ha))
  have hPb : va_P G.1 vwCl (MC ++ ([(ou, .inl (cJ, 1, .inr (.inl lo)))] ++ WC')) H := P_perm ((List.perm_append_comm).trans (by rw [List.append_assoc])) hP2
  have hDb : va_D (AA s) (MC ++ ([(ou, .inl (cJ, 1, .inr (.inl lo)))] ++ WC')) := D_perm ((List.perm_append_comm).trans (by rw [List.append_assoc])) hD2
  refine lv_aload_n hx hb dL_law_665 rfl (lv_at hl 2 rfl) ?_
  refine mcall (st1 := [.int (nI len), .int (nI len)]) (va_runV (As := []) (rest := [.int (nI len)]) ⟨hx, hb, hml, hown, hts⟩ (MX_clearBuffer_ok l G hM hR (by omega) ) (cwV 0 hts gL_law_X6_clearBuffer rfl rfl rfl (by decide +kernel) ⟨Nat.le_of_ble_eq_true rfl, Nat.le_of_ble_eq_true rfl⟩) (PJ.preV hE hJ (rs_recv hE.1 hM (P_pre hPb)) ⟨P_pre hPb, (D_pre hDb).weaken (fun _ _ _ _ => trivial)⟩) rfl rfl hl.1 rfl (lv_room (Nat.le_of_ble_eq_true rfl)) dL_law_666 ⟨by show _ + 0 ≤ 601024; omega, by show _ + 0 ≤ 7293034; omega⟩) hS (fun q _ h => inW_D (D_pre hDb) q h) (fun q h => inW_D (D_pre hDb) q h) rfl (fun H1 locs1 hB9 hz9 hk1 hS => ?_)
  obtain ⟨MC', hM', hP1, hD1⟩ := hB9
  obtain ⟨hP3, hD3⟩ := jnF (w1 := MC') hPb hDb hk1 hP1 hD1
  generalize H1 = H at hP3 hS ⊢
  refine lv_icmp_eq (tgt := 1491) hx hb dL_law_669 (by decide) (fun _ => ?_) (fun h => absurd rfl h)
  refine W.widen (k := cells + 1) (n := slots + 6) (by omega) (by omega) ?_
  have hP4 : va_P G.1 vwCl ([(ou, .inl (cJ, 1, .inr (.inl lo)))] ++ (WC' ++ MC')) H := P_perm ((List.perm_append_comm).trans (by rw [List.append_assoc])) hP3
  have hD4 : va_D (AA s) ([(ou, .inl (cJ, 1, .inr (.inl lo)))] ++ (WC' ++ MC')) := D_perm ((List.perm_append_comm).trans (by rw [List.append_assoc])) hD3
  exact kk _ _ _ _ _ _ _ _ _ _ _ _ _ _ _ ⟨hX', PR_mono (by omega) (PR_len0 hR), hM', hP4, hD4, hS, lv_sub hl [0, 1, 2, 3, 4] rfl⟩
set_option maxHeartbeats 4000000 in
set_option maxRecDepth 100000 in
theorem seg_firstError {p : Program} {l : Launch} {e : Env} {s : State} {m : MethodId} {below : List Frame} {meth : Method} {c : Code} {b L : Nat} {xs : Nat → Int32} {G : eG} {cJ : ClassId} {Q : State → Prop} (hlt : l.stackTraces = false) (hL : LX p s m c b L xs G cJ) {fe ob ou B i : Nat} {f sf : Nat → Int32} {ff : Nat → Nat → Int32} {old sz len : Nat} {tx : Nat → Int32} {hsn thr : Int32} {lo : Nat → Int64} {WC MC : va_W} {H : Heap} {locs : List Loc} {ls : Array Slot} {cells slots : Nat} (hD : LD s G cJ b fe ob ou B f sf ff old sz len tx hsn thr lo WC MC H locs ls i) (hi : i + 4 ≤ L) (hLL : L ≤ 2048) (hB : B + 10000 < 700000000) (hc1 : cells + 1 ≤ 601024) (hs1 : slots + 6 ≤ 7293034)   (kk : ∀ (f sf : Nat → Int32) (ff : Nat → Nat → Int32) (old sz len : Nat) (tx : Nat → Int32) (hsn thr : Int32) (lo : Nat → Int64) (WC MC : va_W) (H : Heap) (locs : List Loc) (ls : Array Slot), LD s G cJ b fe ob ou (B + 10000) f sf ff old sz len tx hsn thr lo WC MC H locs ls i → W p l e room_1 s m #[Value.ref b] below meth c H locs (cells + 1) (slots + 6) Q (F0 m 1491 ls [])) : W p l e room_1 s m #[Value.ref b] below meth c H locs cells slots Q (F0 m 674 ls []) := by
  obtain ⟨hx, hb, hml, hown, hts, hE, hJ0, hKJ, hXs, hbl⟩ := hL
  obtain ⟨hX, hR, hM, hP, hDD, hS, hl⟩ := hD
  have hbA : ¬ AA s b := Nat.not_le.mpr hbl
  have hJ : JX s H := hJ0.kept (fun a ha => hS.2.1 a ha (Nat.not_le.mpr ha))
  refine lv_aload_n hx hb dL_law_674 rfl (lv_at hl 1 rfl) ?_
  have hPa : va_P G.1 vwCl (WC ++ (MC ++ [(ou, .inl (cJ, 1, .inr (.inl lo)))])) H := P_perm ((List.perm_append_comm).trans (by rw [List.append_assoc])) hP
  have hDa : va_D (AA s) (WC ++ (MC ++ [(ou, .inl (cJ, 1, .inr (.inl lo)))])) := D_perm ((List.perm_append_comm).trans (by rw [List.append_assoc])) hDD
  refine mcall (st1 := [.int (nI (rR (nn tx) len))]) (va_runV (As := []) (rest := []) ⟨hx, hb, hml, hown, hts⟩ (CX_firstError l G hX hR (by omega) ) (cwV 0 hts gL_law_X5_firstError rfl rfl rfl (by decide +kernel) ⟨Nat.le_of_ble_eq_true rfl, Nat.le_of_ble_eq_true rfl⟩) (PJ.preV hE hJ (xs_recv hE.1 hX (P_pre hPa)) ⟨P_pre hPa, (D_pre hDa).weaken (fun _ _ _ _ => trivial)⟩) rfl rfl hl.1 rfl (lv_room (Nat.le_of_ble_eq_true rfl)) dL_law_675 ⟨by show cells + 0 ≤ 601024; omega, by show slots + 0 ≤ 7293034; omega⟩) hS (fun q _ h => inW_D (D_pre hDa) q h) (fun q h => inW_D (D_pre hDa) q h) rfl (fun H1 locs1 hB9 hz9 hk1 hS => ?_)
  obtain ⟨WC', hX', hP1, hD1⟩ := hB9
  obtain ⟨hP2, hD2⟩ := jnF (w1 := WC') hPa hDa hk1 hP1 hD1
  generalize H1 = H at hP2 hS ⊢
  replace hJ : JX s H := hJ0.kept (fun a ha => hS.2.1 a ha (Nat.not_le.mpr ha))
  have hPb : va_P G.1 vwCl (MC ++ ([(ou, .inl (cJ, 1, .inr (.inl lo)))] ++ WC')) H := P_perm ((List.perm_append_comm).trans (by rw [List.append_assoc])) hP2
  have hDb : va_D (AA s) (MC ++ ([(ou, .inl (cJ, 1, .inr (.inl lo)))] ++ WC')) := D_perm ((List.perm_append_comm).trans (by rw [List.append_assoc])) hD2
  refine lv_aload_n hx hb dL_law_678 rfl (lv_at hl 2 rfl) ?_
  refine mcall (st1 := [.int (nI (feR (nn tx) len)), .int (nI (rR (nn tx) len))]) (va_runV (As := []) (rest := [.int (nI (rR (nn tx) len))]) ⟨hx, hb, hml, hown, hts⟩ (MX_firstError_ok l G hM hR (by omega) ) (cwV 0 hts gL_law_X6_firstError rfl rfl rfl (by decide +kernel) ⟨Nat.le_of_ble_eq_true rfl, Nat.le_of_ble_eq_true rfl⟩) (PJ.preV hE hJ (rs_recv hE.1 hM (P_pre hPb)) ⟨P_pre hPb, (D_pre hDb).weaken (fun _ _ _ _ => trivial)⟩) rfl rfl hl.1 rfl (lv_room (Nat.le_of_ble_eq_true rfl)) dL_law_679 ⟨by show _ + 0 ≤ 601024; omega, by show _ + 0 ≤ 7293034; omega⟩) hS (fun q _ h => inW_D (D_pre hDb) q h) (fun q h => inW_D (D_pre hDb) q h) rfl (fun H1 locs1 hB9 hz9 hk1 hS => ?_)
  obtain ⟨MC', hM', hP1, hD1⟩ := hB9
  obtain ⟨hP3, hD3⟩ := jnF (w1 := MC') hPb hDb hk1 hP1 hD1
  generalize H1 = H at hP3 hS ⊢
  refine tS (st' := [.int (nI (rR (nn tx) len)), .int (nI (rR (nn tx) len))]) (by rw [feR_rR]) ?_
  refine lv_icmp_eq (tgt := 1491) hx hb dL_law_682 (by decide) (fun _ => ?_) (fun h => absurd rfl h)
  refine W.widen (k := cells + 1) (n := slots + 6) (by omega) (by omega) ?_
  have hP4 : va_P G.1 vwCl ([(ou, .inl (cJ, 1, .inr (.inl lo)))] ++ (WC' ++ MC')) H := P_perm ((List.perm_append_comm).trans (by rw [List.append_assoc])) hP3
  have hD4 : va_D (AA s) ([(ou, .inl (cJ, 1, .inr (.inl lo)))] ++ (WC' ++ MC')) := D_perm ((List.perm_append_comm).trans (by rw [List.append_assoc])) hD3
  exact kk _ _ _ _ _ _ _ _ _ _ _ _ _ _ _ ⟨hX', PR_mono (by omega) hR, hM', hP4, hD4, hS, lv_sub hl [0, 1, 2, 3, 4] rfl⟩
set_option maxHeartbeats 4000000 in
set_option maxRecDepth 100000 in
theorem seg_obey_ok {p : Program} {l : Launch} {e : Env} {s : State} {m : MethodId} {below : List Frame} {meth : Method} {c : Code} {b L : Nat} {xs : Nat → Int32} {G : eG} {cJ : ClassId} {Q : State → Prop} (hlt : l.stackTraces = false) (hL : LX p s m c b L xs G cJ) {fe ob ou B i : Nat} {f sf : Nat → Int32} {ff : Nat → Nat → Int32} {old sz len : Nat} {tx : Nat → Int32} {hsn thr : Int32} {lo : Nat → Int64} {WC MC : va_W} {H : Heap} {locs : List Loc} {ls : Array Slot} {cells slots : Nat} (hD : LD s G cJ b fe ob ou B f sf ff old sz len tx hsn thr lo WC MC H locs ls i) (hi : i + 4 ≤ L) (hLL : L ≤ 2048) (hB : B + 10000 < 700000000) (hc1 : cells + 1 ≤ 601024) (hs1 : slots + 6 ≤ 7293034) (hW : pW (nn tx) len (len + 1) 0 = true)  (kk : ∀ (f sf : Nat → Int32) (ff : Nat → Nat → Int32) (old sz len : Nat) (tx : Nat → Int32) (hsn thr : Int32) (lo : Nat → Int64) (WC MC : va_W) (H : Heap) (locs : List Loc) (ls : Array Slot), LD s G cJ b fe ob ou (B + 10000) f sf ff old sz len tx hsn thr lo WC MC H locs ls i → W p l e room_1 s m #[Value.ref b] below meth c H locs (cells + 1) (slots + 6) Q (F0 m 1491 ls [])) : W p l e room_1 s m #[Value.ref b] below meth c H locs cells slots Q (F0 m 687 ls []) := by
  obtain ⟨hx, hb, hml, hown, hts, hE, hJ0, hKJ, hXs, hbl⟩ := hL
  obtain ⟨hX, hR, hM, hP, hDD, hS, hl⟩ := hD
  have hbA : ¬ AA s b := Nat.not_le.mpr hbl
  have hJ : JX s H := hJ0.kept (fun a ha => hS.2.1 a ha (Nat.not_le.mpr ha))
  refine lv_aload_n hx hb dL_law_687 rfl (lv_at hl 1 rfl) ?_
  refine lv_aload_n hx hb dL_law_688 rfl (lv_at hl 3 rfl) ?_
  have hPa : va_P G.1 vwCl (([(ou, .inl (cJ, 1, .inr (.inl lo)))] ++ WC) ++ MC) H := by rw [List.append_assoc]; exact hP
  have hDa : va_D (AA s) (([(ou, .inl (cJ, 1, .inr (.inl lo)))] ++ WC) ++ MC) := by rw [List.append_assoc]; exact hDD
  refine mcall (st1 := [.int (nI 0)]) (vx_runSW (As := [.ref fe, .ref ou]) (rest := []) ⟨hx, hb, hml, hown, hts⟩ (CL_obey_ok l G cJ hX hR (by omega) hW (pW_cp.mp hW)) (vx_cwSW 2 hts gL_law_L_obey rfl rfl rfl (by decide +kernel) ⟨Nat.le_of_ble_eq_true rfl, Nat.le_of_ble_eq_true rfl⟩) (PL.preS hE hJ hKJ ⟨P_pre hPa, (D_pre hDa).weaken (fun _ _ _ _ => trivial)⟩) rfl rfl hl.1 rfl (lv_room (Nat.le_of_ble_eq_true rfl)) dL_law_689 ⟨by show cells + 0 ≤ 601024; omega, by show slots + 0 ≤ 7293034; omega⟩) hS (fun q _ h => inW_D (D_pre hDa) q h) (fun q h => inW_D (D_pre hDa) q h) rfl (fun H1 locs1 hB9 hz9 hk1 hS => ?_)
  obtain ⟨WC', hX', hP1, hD1⟩ := hB9
  obtain ⟨hP2, hD2⟩ := jnF (w1 := [(ou, .inl (cJ, 1, .inr (.inl (vp_updL lo 0 (((nI (yC (nn tx) len len 0 f))).toInt64)))))] ++ WC') hPa hDa hk1 hP1 hD1
  generalize H1 = H at hP2 hS ⊢
  replace hJ : JX s H := hJ0.kept (fun a ha => hS.2.1 a ha (Nat.not_le.mpr ha))
  have hPb : va_P G.1 vwCl (MC ++ ([(ou, .inl (cJ, 1, .inr (.inl (vp_updL lo 0 (((nI (yC (nn tx) len len 0 f))).toInt64)))))] ++ WC')) H := P_perm List.perm_append_comm hP2
  have hDb : va_D (AA s) (MC ++ ([(ou, .inl (cJ, 1, .inr (.inl (vp_updL lo 0 (((nI (yC (nn tx) len len 0 f))).toInt64)))))] ++ WC')) := D_perm List.perm_append_comm hD2
  refine lv_istore (lv' := [(5, .int (nI 0)), (0, .ref b), (1, .ref fe), (2, .ref ob), (3, .ref ou), (4, .int (nI i))]) hx hb dL_law_692 hl (by decide) rfl (fun ls hl => ?_)
  refine lv_aload_n hx hb dL_law_694 rfl (lv_at hl 3 rfl) ?_
  refine mcall (st1 := [.int (nI (yC (nn tx) len len 0 f))]) (va_runV (As := []) (rest := []) ⟨hx, hb, hml, hown, hts⟩ (MX_obey_ok l G hM hR (by omega) hW) (cwV 0 hts gL_law_X6_obey rfl rfl rfl (by decide +kernel) ⟨Nat.le_of_ble_eq_true rfl, Nat.le_of_ble_eq_true rfl⟩) (PJ.preV hE hJ (rs_recv hE.1 hM (P_pre hPb)) ⟨P_pre hPb, (D_pre hDb).weaken (fun _ _ _ _ => trivial)⟩) rfl rfl hl.1 rfl (lv_room (Nat.le_of_ble_eq_true rfl)) dL_law_695 ⟨by show _ + 0 ≤ 601024; omega, by show _ + 0 ≤ 7293034; omega⟩) hS (fun q _ h => inW_D (D_pre hDb) q h) (fun q h => inW_D (D_pre hDb) q h) rfl (fun H1 locs1 hB9 hz9 hk1 hS => ?_)
  obtain ⟨MC', hM', hP1, hD1⟩ := hB9
  obtain ⟨hP3, hD3⟩ := jnF (w1 := MC') hPb hDb hk1 hP1 hD1
  generalize H1 = H at hP3 hS ⊢
  refine lv_istore (lv' := [(6, .int (nI (yC (nn tx) len len 0 f))), (5, .int (nI 0)), (0, .ref b), (1, .ref fe), (2, .ref ob), (3, .ref ou), (4, .int (nI i))]) hx hb dL_law_698 hl (by decide) rfl (fun ls hl => ?_)
  refine lv_aload_n hx hb dL_law_700 rfl (lv_at hl 4 rfl) ?_
  refine pcall (st1 := [.int (nI 0)]) (va_runV (As := []) (rest := []) ⟨hx, hb, hml, hown, hts⟩ (MX_thrown l G hM') (cwV 0 hts gL_law_X6_thrown rfl rfl rfl (by decide +kernel) ⟨Nat.le_of_ble_eq_true rfl, Nat.le_of_ble_eq_true rfl⟩) (PC.preV hE (rs_recv hE.1 hM' (P_pre hP3)) (P_pre hP3)) rfl rfl hl.1 rfl (lv_room (Nat.le_of_ble_eq_true rfl)) dL_law_701 ⟨by show _ + 0 ≤ 601024; omega, by show _ + 0 ≤ 7293034; omega⟩) rfl ?_
  refine lv_iload hx hb dL_law_704 (lv_at hl 1 rfl) ?_
  refine icmp_eqN (tgt := 711) hx hb (by decide) (by decide) dL_law_706 (by decide) (fun _ => ?_) (fun h => absurd rfl h)
  refine lv_iload hx hb dL_law_711 (lv_at hl 1 rfl) ?_
  refine if_neN (tgt := 728) hx hb (by decide) dL_law_713 (by decide) (fun h => absurd rfl h) (fun _ => ?_)
  refine lv_aload_n hx hb dL_law_716 rfl (lv_at hl 5 rfl) ?_
  refine lv_iconst (v := nI 0) hx hb dL_law_717 (by decide +kernel) ?_
  refine va_lald hx hb hKJ (P_pre (P_perm ((List.perm_append_comm).trans (by rw [List.append_assoc])) hP3)) 0 0 rfl rfl (vp_in_nI (n := 0) (N := 1) (by decide) (by decide)) dL_law_718 ?_
  refine tS (st' := [.long (((nI (yC (nn tx) len len 0 f))).toInt64)]) (by rw [nI_clamp (by decide), pk_uLs]) ?_
  refine lv_iload hx hb dL_law_719 (lv_at hl 0 rfl) ?_
  refine lv_i2l (v := ((nI (yC (nn tx) len len 0 f))).toInt64) hx hb dL_law_721 rfl ?_
  refine lv_lcmpE hx hb dL_law_722 ?_
  refine if_eqN (tgt := 728) hx hb (by decide) dL_law_723 (by decide) (fun _ => ?_) (fun h => absurd rfl h)
  refine lv_goto (tgt := 1491) hx hb dL_law_728 (by decide) ?_
  refine W.widen (k := cells + 1) (n := slots + 6) (by omega) (by omega) ?_
  have hP4 : va_P G.1 vwCl ([(ou, .inl (cJ, 1, .inr (.inl (vp_updL lo 0 (((nI (yC (nn tx) len len 0 f))).toInt64)))))] ++ (WC' ++ MC')) H := P_perm ((List.perm_append_comm).trans (by rw [List.append_assoc])) hP3
  have hD4 : va_D (AA s) ([(ou, .inl (cJ, 1, .inr (.inl (vp_updL lo 0 (((nI (yC (nn tx) len len 0 f))).toInt64)))))] ++ (WC' ++ MC')) := D_perm ((List.perm_append_comm).trans (by rw [List.append_assoc])) hD3
  exact kk _ _ _ _ _ _ _ _ _ _ _ _ _ _ _ ⟨hX', PR_len0 (PR_sav (by omega) hR (okf_yF (by omega) hR.1 hR.2.2.2.2.2.1.1 hW)), hM', hP4, hD4, hS, lv_sub hl [2, 3, 4, 5, 6] rfl⟩
set_option maxHeartbeats 4000000 in
set_option maxRecDepth 100000 in
theorem seg_obey_e1 {p : Program} {l : Launch} {e : Env} {s : State} {m : MethodId} {below : List Frame} {meth : Method} {c : Code} {b L : Nat} {xs : Nat → Int32} {G : eG} {cJ : ClassId} {Q : State → Prop} (hlt : l.stackTraces = false) (hL : LX p s m c b L xs G cJ) {fe ob ou B i : Nat} {f sf : Nat → Int32} {ff : Nat → Nat → Int32} {old sz len : Nat} {tx : Nat → Int32} {hsn thr : Int32} {lo : Nat → Int64} {WC MC : va_W} {H : Heap} {locs : List Loc} {ls : Array Slot} {cells slots : Nat} (hD : LD s G cJ b fe ob ou B f sf ff old sz len tx hsn thr lo WC MC H locs ls i) (hi : i + 4 ≤ L) (hLL : L ≤ 2048) (hB : B + 10000 < 700000000) (hc1 : cells + 1 ≤ 601024) (hs1 : slots + 6 ≤ 7293034) (hno : ¬ eCp (eR (nn tx) len) = true)  (kk : ∀ (f sf : Nat → Int32) (ff : Nat → Nat → Int32) (old sz len : Nat) (tx : Nat → Int32) (hsn thr : Int32) (lo : Nat → Int64) (WC MC : va_W) (H : Heap) (locs : List Loc) (ls : Array Slot), LD s G cJ b fe ob ou (B + 10000) f sf ff old sz len tx hsn thr lo WC MC H locs ls i → W p l e room_1 s m #[Value.ref b] below meth c H locs (cells + 1) (slots + 6) Q (F0 m 1491 ls [])) : W p l e room_1 s m #[Value.ref b] below meth c H locs cells slots Q (F0 m 687 ls []) := by
  obtain ⟨hx, hb, hml, hown, hts, hE, hJ0, hKJ, hXs, hbl⟩ := hL
  obtain ⟨hX, hR, hM, hP, hDD, hS, hl⟩ := hD
  have hbA : ¬ AA s b := Nat.not_le.mpr hbl
  have hJ : JX s H := hJ0.kept (fun a ha => hS.2.1 a ha (Nat.not_le.mpr ha))
  refine lv_aload_n hx hb dL_law_687 rfl (lv_at hl 1 rfl) ?_
  refine lv_aload_n hx hb dL_law_688 rfl (lv_at hl 3 rfl) ?_
  have hPw : va_P G.1 vwCl (WC ++ MC) H := P_pre (P_perm List.perm_append_comm hP)
  have hDw : va_D (AA s) (WC ++ MC) := D_pre (D_perm List.perm_append_comm hDD)
  refine mcall (st1 := [.int (nI 1)]) (vx_runSW (As := [.ref fe, .ref ou]) (rest := []) ⟨hx, hb, hml, hown, hts⟩ (CL_obey_e1 l hlt G cJ hX hR (by omega) hno) (vx_cwSW 2 hts gL_law_L_obey rfl rfl rfl (by decide +kernel) ⟨Nat.le_of_ble_eq_true rfl, Nat.le_of_ble_eq_true rfl⟩) (PL.preS hE hJ hKJ ⟨P_pre hPw, (D_pre hDw).weaken (fun _ _ _ _ => trivial)⟩) rfl rfl hl.1 rfl (lv_room (Nat.le_of_ble_eq_true rfl)) dL_law_689 ⟨by show cells + 1 ≤ 601024; omega, by show slots + 6 ≤ 7293034; omega⟩) hS (fun q _ h => (h : False).elim) (fun q h => (h : False).elim) rfl (fun H1 locs1 hB9 hz9 hk1 hS => ?_)
  have hP2 := P_kept hP (fun a ha => hk1 a ha (fun h => h))
  generalize H1 = H at hP2 hS ⊢
  replace hJ : JX s H := hJ0.kept (fun a ha => hS.2.1 a ha (Nat.not_le.mpr ha))
  have hPa : va_P G.1 vwCl (([(ou, .inl (cJ, 1, .inr (.inl lo)))] ++ WC) ++ MC) H := by rw [List.append_assoc]; exact hP2
  have hDa : va_D (AA s) (([(ou, .inl (cJ, 1, .inr (.inl lo)))] ++ WC) ++ MC) := by rw [List.append_assoc]; exact hDD
  have hPb : va_P G.1 vwCl (MC ++ ([(ou, .inl (cJ, 1, .inr (.inl lo)))] ++ WC)) H := P_perm List.perm_append_comm hPa
  have hDb : va_D (AA s) (MC ++ ([(ou, .inl (cJ, 1, .inr (.inl lo)))] ++ WC)) := D_perm List.perm_append_comm hDa
  refine lv_istore (lv' := [(5, .int (nI 1)), (0, .ref b), (1, .ref fe), (2, .ref ob), (3, .ref ou), (4, .int (nI i))]) hx hb dL_law_692 hl (by decide) rfl (fun ls hl => ?_)
  refine lv_aload_n hx hb dL_law_694 rfl (lv_at hl 3 rfl) ?_
  refine mcall (st1 := [.int (nI 0)]) (va_runV (As := []) (rest := []) ⟨hx, hb, hml, hown, hts⟩ (MX_obey_e1 l G hM hR (by omega) (fun h => hno (pW_cp.mp h))) (cwV 0 hts gL_law_X6_obey rfl rfl rfl (by decide +kernel) ⟨Nat.le_of_ble_eq_true rfl, Nat.le_of_ble_eq_true rfl⟩) (PJ.preV hE hJ (rs_recv hE.1 hM (P_pre hPb)) ⟨P_pre hPb, (D_pre hDb).weaken (fun _ _ _ _ => trivial)⟩) rfl rfl hl.1 rfl (lv_room (Nat.le_of_ble_eq_true rfl)) dL_law_695 ⟨by show _ + 0 ≤ 601024; omega, by show _ + 0 ≤ 7293034; omega⟩) hS (fun q _ h => inW_D (D_pre hDb) q h) (fun q h => inW_D (D_pre hDb) q h) rfl (fun H1 locs1 hB9 hz9 hk1 hS => ?_)
  obtain ⟨MC', hM', hP1, hD1⟩ := hB9
  obtain ⟨hP3, hD3⟩ := jnF (w1 := MC') hPb hDb hk1 hP1 hD1
  generalize H1 = H at hP3 hS ⊢
  refine lv_istore (lv' := [(6, .int (nI 0)), (5, .int (nI 1)), (0, .ref b), (1, .ref fe), (2, .ref ob), (3, .ref ou), (4, .int (nI i))]) hx hb dL_law_698 hl (by decide) rfl (fun ls hl => ?_)
  refine lv_aload_n hx hb dL_law_700 rfl (lv_at hl 4 rfl) ?_
  refine pcall (st1 := [.int (nI 1)]) (va_runV (As := []) (rest := []) ⟨hx, hb, hml, hown, hts⟩ (MX_thrown l G hM') (cwV 0 hts gL_law_X6_thrown rfl rfl rfl (by decide +kernel) ⟨Nat.le_of_ble_eq_true rfl, Nat.le_of_ble_eq_true rfl⟩) (PC.preV hE (rs_recv hE.1 hM' (P_pre hP3)) (P_pre hP3)) rfl rfl hl.1 rfl (lv_room (Nat.le_of_ble_eq_true rfl)) dL_law_701 ⟨by show _ + 0 ≤ 601024; omega, by show _ + 0 ≤ 7293034; omega⟩) rfl ?_
  refine lv_iload hx hb dL_law_704 (lv_at hl 1 rfl) ?_
  refine icmp_eqN (tgt := 711) hx hb (by decide) (by decide) dL_law_706 (by decide) (fun _ => ?_) (fun h => absurd rfl h)
  refine lv_iload hx hb dL_law_711 (lv_at hl 1 rfl) ?_
  refine if_neN (tgt := 728) hx hb (by decide) dL_law_713 (by decide) (fun _ => ?_) (fun h => absurd h (by decide))
  refine lv_goto (tgt := 1491) hx hb dL_law_728 (by decide) ?_
  refine W.widen (k := cells + 1) (n := slots + 6) (by omega) (by omega) ?_
  have hP4 : va_P G.1 vwCl ([(ou, .inl (cJ, 1, .inr (.inl lo)))] ++ (WC ++ MC')) H := P_perm ((List.perm_append_comm).trans (by rw [List.append_assoc])) hP3
  have hD4 : va_D (AA s) ([(ou, .inl (cJ, 1, .inr (.inl lo)))] ++ (WC ++ MC')) := D_perm ((List.perm_append_comm).trans (by rw [List.append_assoc])) hD3
  exact kk _ _ _ _ _ _ _ _ _ _ _ _ _ _ _ ⟨hX, PR_mono (by omega) hR, hM', hP4, hD4, hS, lv_sub hl [2, 3, 4, 5, 6] rfl⟩
set_option maxHeartbeats 4000000 in
set_option maxRecDepth 100000 in
theorem seg_keep_ok {p : Program} {l : Launch} {e : Env} {s : State} {m : MethodId} {below : List Frame} {meth : Method} {c : Code} {b L : Nat} {xs : Nat → Int32} {G : eG} {cJ : ClassId} {Q : State → Prop} (hlt : l.stackTraces = false) (hL : LX p s m c b L xs G cJ) {fe ob ou B i : Nat} {f sf : Nat → Int32} {ff : Nat → Nat → Int32} {old sz len : Nat} {tx : Nat → Int32} {hsn thr : Int32} {lo : Nat → Int64} {WC MC : va_W} {H : Heap} {locs : List Loc} {ls : Array Slot} {cells slots : Nat} (hD : LD s G cJ b fe ob ou B f sf ff old sz len tx hsn thr lo WC MC H locs ls i) (hi : i + 4 ≤ L) (hLL : L ≤ 2048) (hB : B + 10000 < 700000000) (hc1 : cells + 1 ≤ 601024) (hs1 : slots + 6 ≤ 7293034)   (kk : ∀ (f sf : Nat → Int32) (ff : Nat → Nat → Int32) (old sz len : Nat) (tx : Nat → Int32) (hsn thr : Int32) (lo : Nat → Int64) (WC MC : va_W) (H : Heap) (locs : List Loc) (ls : Array Slot), LD s G cJ b fe ob ou (B + 10000) f sf ff old sz len tx hsn thr lo WC MC H locs ls i → W p l e room_1 s m #[Value.ref b] below meth c H locs (cells + 1) (slots + 6) Q (F0 m 1491 ls [])) : W p l e room_1 s m #[Value.ref b] below meth c H locs cells slots Q (F0 m 731 ls []) := by
  obtain ⟨hx, hb, hml, hown, hts, hE, hJ0, hKJ, hXs, hbl⟩ := hL
  obtain ⟨hX, hR, hM, hP, hDD, hS, hl⟩ := hD
  have hbA : ¬ AA s b := Nat.not_le.mpr hbl
  have hJ : JX s H := hJ0.kept (fun a ha => hS.2.1 a ha (Nat.not_le.mpr ha))
  refine lv_aload_n hx hb dL_law_731 rfl (lv_at hl 1 rfl) ?_
  have hPa : va_P G.1 vwCl (WC ++ (MC ++ [(ou, .inl (cJ, 1, .inr (.inl lo)))])) H := P_perm ((List.perm_append_comm).trans (by rw [List.append_assoc])) hP
  have hDa : va_D (AA s) (WC ++ (MC ++ [(ou, .inl (cJ, 1, .inr (.inl lo)))])) := D_perm ((List.perm_append_comm).trans (by rw [List.append_assoc])) hDD
  refine mcall (st1 := [.int (f 50)]) (va_runV (As := []) (rest := []) ⟨hx, hb, hml, hown, hts⟩ (CX_keep_ok l G hX hR (by omega) ) (cwV 0 hts gL_law_X5_keep rfl rfl rfl (by decide +kernel) ⟨Nat.le_of_ble_eq_true rfl, Nat.le_of_ble_eq_true rfl⟩) (PJ.preV hE hJ (xs_recv hE.1 hX (P_pre hPa)) ⟨P_pre hPa, (D_pre hDa).weaken (fun _ _ _ _ => trivial)⟩) rfl rfl hl.1 rfl (lv_room (Nat.le_of_ble_eq_true rfl)) dL_law_732 ⟨by show cells + 0 ≤ 601024; omega, by show slots + 0 ≤ 7293034; omega⟩) hS (fun q _ h => inW_D (D_pre hDa) q h) (fun q h => inW_D (D_pre hDa) q h) rfl (fun H1 locs1 hB9 hz9 hk1 hS => ?_)
  obtain ⟨WC', hX', hP1, hD1⟩ := hB9
  obtain ⟨hP2, hD2⟩ := jnF (w1 := WC') hPa hDa hk1 hP1 hD1
  generalize H1 = H at hP2 hS ⊢
  replace hJ : JX s H := hJ0.kept (fun a ha => hS.2.1 a ha (Nat.not_le.mpr ha))
  have hPb : va_P G.1 vwCl (MC ++ ([(ou, .inl (cJ, 1, .inr (.inl lo)))] ++ WC')) H := P_perm ((List.perm_append_comm).trans (by rw [List.append_assoc])) hP2
  have hDb : va_D (AA s) (MC ++ ([(ou, .inl (cJ, 1, .inr (.inl lo)))] ++ WC')) := D_perm ((List.perm_append_comm).trans (by rw [List.append_assoc])) hD2
  refine lv_aload_n hx hb dL_law_735 rfl (lv_at hl 2 rfl) ?_
  refine mcall (st1 := [.int (f 50), .int (f 50)]) (va_runV (As := []) (rest := [.int (f 50)]) ⟨hx, hb, hml, hown, hts⟩ (MX_keep_ok l G hM hR (by omega) ) (cwV 0 hts gL_law_X6_keep rfl rfl rfl (by decide +kernel) ⟨Nat.le_of_ble_eq_true rfl, Nat.le_of_ble_eq_true rfl⟩) (PJ.preV hE hJ (rs_recv hE.1 hM (P_pre hPb)) ⟨P_pre hPb, (D_pre hDb).weaken (fun _ _ _ _ => trivial)⟩) rfl rfl hl.1 rfl (lv_room (Nat.le_of_ble_eq_true rfl)) dL_law_736 ⟨by show _ + 0 ≤ 601024; omega, by show _ + 0 ≤ 7293034; omega⟩) hS (fun q _ h => inW_D (D_pre hDb) q h) (fun q h => inW_D (D_pre hDb) q h) rfl (fun H1 locs1 hB9 hz9 hk1 hS => ?_)
  obtain ⟨MC', hM', hP1, hD1⟩ := hB9
  obtain ⟨hP3, hD3⟩ := jnF (w1 := MC') hPb hDb hk1 hP1 hD1
  generalize H1 = H at hP3 hS ⊢
  refine lv_icmp_eq (tgt := 1491) hx hb dL_law_739 (by decide) (fun _ => ?_) (fun h => absurd rfl h)
  refine W.widen (k := cells + 1) (n := slots + 6) (by omega) (by omega) ?_
  have hP4 : va_P G.1 vwCl ([(ou, .inl (cJ, 1, .inr (.inl lo)))] ++ (WC' ++ MC')) H := P_perm ((List.perm_append_comm).trans (by rw [List.append_assoc])) hP3
  have hD4 : va_D (AA s) ([(ou, .inl (cJ, 1, .inr (.inl lo)))] ++ (WC' ++ MC')) := D_perm ((List.perm_append_comm).trans (by rw [List.append_assoc])) hD3
  exact kk _ _ _ _ _ _ _ _ _ _ _ _ _ _ _ ⟨hX', PR_mono (by omega) (PR_sf hR), hM', hP4, hD4, hS, lv_sub hl [0, 1, 2, 3, 4] rfl⟩
set_option maxHeartbeats 4000000 in
set_option maxRecDepth 100000 in
theorem seg_goBack_ok {p : Program} {l : Launch} {e : Env} {s : State} {m : MethodId} {below : List Frame} {meth : Method} {c : Code} {b L : Nat} {xs : Nat → Int32} {G : eG} {cJ : ClassId} {Q : State → Prop} (hlt : l.stackTraces = false) (hL : LX p s m c b L xs G cJ) {fe ob ou B i : Nat} {f sf : Nat → Int32} {ff : Nat → Nat → Int32} {old sz len : Nat} {tx : Nat → Int32} {thr : Int32} {lo : Nat → Int64} {WC MC : va_W} {H : Heap} {locs : List Loc} {ls : Array Slot} {cells slots : Nat} (hD : LD s G cJ b fe ob ou B f sf ff old sz len tx (nI 1) thr lo WC MC H locs ls i) (hi : i + 4 ≤ L) (hLL : L ≤ 2048) (hB : B + 10000 < 700000000) (hc1 : cells + 1 ≤ 601024) (hs1 : slots + 6 ≤ 7293034)   (kk : ∀ (f sf : Nat → Int32) (ff : Nat → Nat → Int32) (old sz len : Nat) (tx : Nat → Int32) (hsn thr : Int32) (lo : Nat → Int64) (WC MC : va_W) (H : Heap) (locs : List Loc) (ls : Array Slot), LD s G cJ b fe ob ou (B + 10000) f sf ff old sz len tx hsn thr lo WC MC H locs ls i → W p l e room_1 s m #[Value.ref b] below meth c H locs (cells + 1) (slots + 6) Q (F0 m 1491 ls [])) : W p l e room_1 s m #[Value.ref b] below meth c H locs cells slots Q (F0 m 744 ls []) := by
  obtain ⟨hx, hb, hml, hown, hts, hE, hJ0, hKJ, hXs, hbl⟩ := hL
  obtain ⟨hX, hR, hM, hP, hDD, hS, hl⟩ := hD
  have hbA : ¬ AA s b := Nat.not_le.mpr hbl
  have hJ : JX s H := hJ0.kept (fun a ha => hS.2.1 a ha (Nat.not_le.mpr ha))
  refine lv_aload_n hx hb dL_law_744 rfl (lv_at hl 1 rfl) ?_
  refine lv_aload_n hx hb dL_law_745 rfl (lv_at hl 3 rfl) ?_
  have hPa : va_P G.1 vwCl (([(ou, .inl (cJ, 1, .inr (.inl lo)))] ++ WC) ++ MC) H := by rw [List.append_assoc]; exact hP
  have hDa : va_D (AA s) (([(ou, .inl (cJ, 1, .inr (.inl lo)))] ++ WC) ++ MC) := by rw [List.append_assoc]; exact hDD
  refine mcall (st1 := [.int (nI 0)]) (vx_runSW (As := [.ref fe, .ref ou]) (rest := []) ⟨hx, hb, hml, hown, hts⟩ (CL_goBack_ok l G cJ hX hR (by omega) ) (vx_cwSW 2 hts gL_law_L_goBack rfl rfl rfl (by decide +kernel) ⟨Nat.le_of_ble_eq_true rfl, Nat.le_of_ble_eq_true rfl⟩) (PL.preS hE hJ hKJ ⟨P_pre hPa, (D_pre hDa).weaken (fun _ _ _ _ => trivial)⟩) rfl rfl hl.1 rfl (lv_room (Nat.le_of_ble_eq_true rfl)) dL_law_746 ⟨by show cells + 0 ≤ 601024; omega, by show slots + 0 ≤ 7293034; omega⟩) hS (fun q _ h => inW_D (D_pre hDa) q h) (fun q h => inW_D (D_pre hDa) q h) rfl (fun H1 locs1 hB9 hz9 hk1 hS => ?_)
  obtain ⟨WC', hX', hP1, hD1⟩ := hB9
  obtain ⟨hP2, hD2⟩ := jnF (w1 := [(ou, .inl (cJ, 1, .inr (.inl (vp_updL lo 0 (((sf 50)).toInt64)))))] ++ WC') hPa hDa hk1 hP1 hD1
  generalize H1 = H at hP2 hS ⊢
  replace hJ : JX s H := hJ0.kept (fun a ha => hS.2.1 a ha (Nat.not_le.mpr ha))
  have hPb : va_P G.1 vwCl (MC ++ ([(ou, .inl (cJ, 1, .inr (.inl (vp_updL lo 0 (((sf 50)).toInt64)))))] ++ WC')) H := P_perm List.perm_append_comm hP2
  have hDb : va_D (AA s) (MC ++ ([(ou, .inl (cJ, 1, .inr (.inl (vp_updL lo 0 (((sf 50)).toInt64)))))] ++ WC')) := D_perm List.perm_append_comm hD2
  refine lv_istore (lv' := [(5, .int (nI 0)), (0, .ref b), (1, .ref fe), (2, .ref ob), (3, .ref ou), (4, .int (nI i))]) hx hb dL_law_749 hl (by decide) rfl (fun ls hl => ?_)
  refine lv_aload_n hx hb dL_law_751 rfl (lv_at hl 3 rfl) ?_
  refine mcall (st1 := [.int (sf 50)]) (va_runV (As := []) (rest := []) ⟨hx, hb, hml, hown, hts⟩ (MX_goBack_ok l G hM hR (by omega) ) (cwV 0 hts gL_law_X6_goBack rfl rfl rfl (by decide +kernel) ⟨Nat.le_of_ble_eq_true rfl, Nat.le_of_ble_eq_true rfl⟩) (PJ.preV hE hJ (rs_recv hE.1 hM (P_pre hPb)) ⟨P_pre hPb, (D_pre hDb).weaken (fun _ _ _ _ => trivial)⟩) rfl rfl hl.1 rfl (lv_room (Nat.le_of_ble_eq_true rfl)) dL_law_752 ⟨by show _ + 0 ≤ 601024; omega, by show _ + 0 ≤ 7293034; omega⟩) hS (fun q _ h => inW_D (D_pre hDb) q h) (fun q h => inW_D (D_pre hDb) q h) rfl (fun H1 locs1 hB9 hz9 hk1 hS => ?_)
  obtain ⟨MC', hM', hP1, hD1⟩ := hB9
  obtain ⟨hP3, hD3⟩ := jnF (w1 := MC') hPb hDb hk1 hP1 hD1
  generalize H1 = H at hP3 hS ⊢
  refine lv_istore (lv' := [(6, .int (sf 50)), (5, .int (nI 0)), (0, .ref b), (1, .ref fe), (2, .ref ob), (3, .ref ou), (4, .int (nI i))]) hx hb dL_law_755 hl (by decide) rfl (fun ls hl => ?_)
  refine lv_aload_n hx hb dL_law_757 rfl (lv_at hl 4 rfl) ?_
  refine pcall (st1 := [.int (nI 0)]) (va_runV (As := []) (rest := []) ⟨hx, hb, hml, hown, hts⟩ (MX_thrown l G hM') (cwV 0 hts gL_law_X6_thrown rfl rfl rfl (by decide +kernel) ⟨Nat.le_of_ble_eq_true rfl, Nat.le_of_ble_eq_true rfl⟩) (PC.preV hE (rs_recv hE.1 hM' (P_pre hP3)) (P_pre hP3)) rfl rfl hl.1 rfl (lv_room (Nat.le_of_ble_eq_true rfl)) dL_law_758 ⟨by show _ + 0 ≤ 601024; omega, by show _ + 0 ≤ 7293034; omega⟩) rfl ?_
  refine lv_iload hx hb dL_law_761 (lv_at hl 1 rfl) ?_
  refine icmp_eqN (tgt := 768) hx hb (by decide) (by decide) dL_law_763 (by decide) (fun _ => ?_) (fun h => absurd rfl h)
  refine lv_iload hx hb dL_law_768 (lv_at hl 1 rfl) ?_
  refine if_neN (tgt := 785) hx hb (by decide) dL_law_770 (by decide) (fun h => absurd rfl h) (fun _ => ?_)
  refine lv_aload_n hx hb dL_law_773 rfl (lv_at hl 5 rfl) ?_
  refine lv_iconst (v := nI 0) hx hb dL_law_774 (by decide +kernel) ?_
  refine va_lald hx hb hKJ (P_pre (P_perm ((List.perm_append_comm).trans (by rw [List.append_assoc])) hP3)) 0 0 rfl rfl (vp_in_nI (n := 0) (N := 1) (by decide) (by decide)) dL_law_775 ?_
  refine tS (st' := [.long (((sf 50)).toInt64)]) (by rw [nI_clamp (by decide), pk_uLs]) ?_
  refine lv_iload hx hb dL_law_776 (lv_at hl 0 rfl) ?_
  refine lv_i2l (v := ((sf 50)).toInt64) hx hb dL_law_778 rfl ?_
  refine lv_lcmpE hx hb dL_law_779 ?_
  refine if_eqN (tgt := 785) hx hb (by decide) dL_law_780 (by decide) (fun _ => ?_) (fun h => absurd rfl h)
  refine lv_goto (tgt := 1491) hx hb dL_law_785 (by decide) ?_
  refine W.widen (k := cells + 1) (n := slots + 6) (by omega) (by omega) ?_
  have hP4 : va_P G.1 vwCl ([(ou, .inl (cJ, 1, .inr (.inl (vp_updL lo 0 (((sf 50)).toInt64)))))] ++ (WC' ++ MC')) H := P_perm ((List.perm_append_comm).trans (by rw [List.append_assoc])) hP3
  have hD4 : va_D (AA s) ([(ou, .inl (cJ, 1, .inr (.inl (vp_updL lo 0 (((sf 50)).toInt64)))))] ++ (WC' ++ MC')) := D_perm ((List.perm_append_comm).trans (by rw [List.append_assoc])) hD3
  exact kk _ _ _ _ _ _ _ _ _ _ _ _ _ _ _ ⟨hX', PR_sav (by omega) hR (okf_mono (by omega) hR.2.1), hM', hP4, hD4, hS, lv_sub hl [2, 3, 4, 5, 6] rfl⟩
set_option maxHeartbeats 4000000 in
set_option maxRecDepth 100000 in
theorem seg_goBack_e1 {p : Program} {l : Launch} {e : Env} {s : State} {m : MethodId} {below : List Frame} {meth : Method} {c : Code} {b L : Nat} {xs : Nat → Int32} {G : eG} {cJ : ClassId} {Q : State → Prop} (hlt : l.stackTraces = false) (hL : LX p s m c b L xs G cJ) {fe ob ou B i : Nat} {f sf : Nat → Int32} {ff : Nat → Nat → Int32} {old sz len : Nat} {tx : Nat → Int32} {thr : Int32} {lo : Nat → Int64} {WC MC : va_W} {H : Heap} {locs : List Loc} {ls : Array Slot} {cells slots : Nat} (hD : LD s G cJ b fe ob ou B f sf ff old sz len tx (nI 0) thr lo WC MC H locs ls i) (hi : i + 4 ≤ L) (hLL : L ≤ 2048) (hB : B + 10000 < 700000000) (hc1 : cells + 1 ≤ 601024) (hs1 : slots + 6 ≤ 7293034)   (kk : ∀ (f sf : Nat → Int32) (ff : Nat → Nat → Int32) (old sz len : Nat) (tx : Nat → Int32) (hsn thr : Int32) (lo : Nat → Int64) (WC MC : va_W) (H : Heap) (locs : List Loc) (ls : Array Slot), LD s G cJ b fe ob ou (B + 10000) f sf ff old sz len tx hsn thr lo WC MC H locs ls i → W p l e room_1 s m #[Value.ref b] below meth c H locs (cells + 1) (slots + 6) Q (F0 m 1491 ls [])) : W p l e room_1 s m #[Value.ref b] below meth c H locs cells slots Q (F0 m 744 ls []) := by
  obtain ⟨hx, hb, hml, hown, hts, hE, hJ0, hKJ, hXs, hbl⟩ := hL
  obtain ⟨hX, hR, hM, hP, hDD, hS, hl⟩ := hD
  have hbA : ¬ AA s b := Nat.not_le.mpr hbl
  have hJ : JX s H := hJ0.kept (fun a ha => hS.2.1 a ha (Nat.not_le.mpr ha))
  refine lv_aload_n hx hb dL_law_744 rfl (lv_at hl 1 rfl) ?_
  refine lv_aload_n hx hb dL_law_745 rfl (lv_at hl 3 rfl) ?_
  have hPw : va_P G.1 vwCl (WC ++ MC) H := P_pre (P_perm List.perm_append_comm hP)
  have hDw : va_D (AA s) (WC ++ MC) := D_pre (D_perm List.perm_append_comm hDD)
  refine mcall (st1 := [.int (nI 1)]) (vx_runSW (As := [.ref fe, .ref ou]) (rest := []) ⟨hx, hb, hml, hown, hts⟩ (CL_goBack_e1 l hlt G cJ hX hR (by omega) ) (vx_cwSW 2 hts gL_law_L_goBack rfl rfl rfl (by decide +kernel) ⟨Nat.le_of_ble_eq_true rfl, Nat.le_of_ble_eq_true rfl⟩) (PL.preS hE hJ hKJ ⟨P_pre hPw, (D_pre hDw).weaken (fun _ _ _ _ => trivial)⟩) rfl rfl hl.1 rfl (lv_room (Nat.le_of_ble_eq_true rfl)) dL_law_746 ⟨by show cells + 1 ≤ 601024; omega, by show slots + 6 ≤ 7293034; omega⟩) hS (fun q _ h => (h : False).elim) (fun q h => (h : False).elim) rfl (fun H1 locs1 hB9 hz9 hk1 hS => ?_)
  have hP2 := P_kept hP (fun a ha => hk1 a ha (fun h => h))
  generalize H1 = H at hP2 hS ⊢
  replace hJ : JX s H := hJ0.kept (fun a ha => hS.2.1 a ha (Nat.not_le.mpr ha))
  have hPa : va_P G.1 vwCl (([(ou, .inl (cJ, 1, .inr (.inl lo)))] ++ WC) ++ MC) H := by rw [List.append_assoc]; exact hP2
  have hDa : va_D (AA s) (([(ou, .inl (cJ, 1, .inr (.inl lo)))] ++ WC) ++ MC) := by rw [List.append_assoc]; exact hDD
  have hPb : va_P G.1 vwCl (MC ++ ([(ou, .inl (cJ, 1, .inr (.inl lo)))] ++ WC)) H := P_perm List.perm_append_comm hPa
  have hDb : va_D (AA s) (MC ++ ([(ou, .inl (cJ, 1, .inr (.inl lo)))] ++ WC)) := D_perm List.perm_append_comm hDa
  refine lv_istore (lv' := [(5, .int (nI 1)), (0, .ref b), (1, .ref fe), (2, .ref ob), (3, .ref ou), (4, .int (nI i))]) hx hb dL_law_749 hl (by decide) rfl (fun ls hl => ?_)
  refine lv_aload_n hx hb dL_law_751 rfl (lv_at hl 3 rfl) ?_
  refine mcall (st1 := [.int (nI 0)]) (va_runV (As := []) (rest := []) ⟨hx, hb, hml, hown, hts⟩ (MX_goBack_e1 l G hM hR (by omega) ) (cwV 0 hts gL_law_X6_goBack rfl rfl rfl (by decide +kernel) ⟨Nat.le_of_ble_eq_true rfl, Nat.le_of_ble_eq_true rfl⟩) (PJ.preV hE hJ (rs_recv hE.1 hM (P_pre hPb)) ⟨P_pre hPb, (D_pre hDb).weaken (fun _ _ _ _ => trivial)⟩) rfl rfl hl.1 rfl (lv_room (Nat.le_of_ble_eq_true rfl)) dL_law_752 ⟨by show _ + 0 ≤ 601024; omega, by show _ + 0 ≤ 7293034; omega⟩) hS (fun q _ h => inW_D (D_pre hDb) q h) (fun q h => inW_D (D_pre hDb) q h) rfl (fun H1 locs1 hB9 hz9 hk1 hS => ?_)
  obtain ⟨MC', hM', hP1, hD1⟩ := hB9
  obtain ⟨hP3, hD3⟩ := jnF (w1 := MC') hPb hDb hk1 hP1 hD1
  generalize H1 = H at hP3 hS ⊢
  refine lv_istore (lv' := [(6, .int (nI 0)), (5, .int (nI 1)), (0, .ref b), (1, .ref fe), (2, .ref ob), (3, .ref ou), (4, .int (nI i))]) hx hb dL_law_755 hl (by decide) rfl (fun ls hl => ?_)
  refine lv_aload_n hx hb dL_law_757 rfl (lv_at hl 4 rfl) ?_
  refine pcall (st1 := [.int (nI 1)]) (va_runV (As := []) (rest := []) ⟨hx, hb, hml, hown, hts⟩ (MX_thrown l G hM') (cwV 0 hts gL_law_X6_thrown rfl rfl rfl (by decide +kernel) ⟨Nat.le_of_ble_eq_true rfl, Nat.le_of_ble_eq_true rfl⟩) (PC.preV hE (rs_recv hE.1 hM' (P_pre hP3)) (P_pre hP3)) rfl rfl hl.1 rfl (lv_room (Nat.le_of_ble_eq_true rfl)) dL_law_758 ⟨by show _ + 0 ≤ 601024; omega, by show _ + 0 ≤ 7293034; omega⟩) rfl ?_
  refine lv_iload hx hb dL_law_761 (lv_at hl 1 rfl) ?_
  refine icmp_eqN (tgt := 768) hx hb (by decide) (by decide) dL_law_763 (by decide) (fun _ => ?_) (fun h => absurd rfl h)
  refine lv_iload hx hb dL_law_768 (lv_at hl 1 rfl) ?_
  refine if_neN (tgt := 785) hx hb (by decide) dL_law_770 (by decide) (fun _ => ?_) (fun h => absurd h (by decide))
  refine lv_goto (tgt := 1491) hx hb dL_law_785 (by decide) ?_
  refine W.widen (k := cells + 1) (n := slots + 6) (by omega) (by omega) ?_
  have hP4 : va_P G.1 vwCl ([(ou, .inl (cJ, 1, .inr (.inl lo)))] ++ (WC ++ MC')) H := P_perm ((List.perm_append_comm).trans (by rw [List.append_assoc])) hP3
  have hD4 : va_D (AA s) ([(ou, .inl (cJ, 1, .inr (.inl lo)))] ++ (WC ++ MC')) := D_perm ((List.perm_append_comm).trans (by rw [List.append_assoc])) hD3
  exact kk _ _ _ _ _ _ _ _ _ _ _ _ _ _ _ ⟨hX, PR_mono (by omega) hR, hM', hP4, hD4, hS, lv_sub hl [2, 3, 4, 5, 6] rfl⟩
set_option maxHeartbeats 4000000 in
set_option maxRecDepth 100000 in
theorem seg_undo_ok {p : Program} {l : Launch} {e : Env} {s : State} {m : MethodId} {below : List Frame} {meth : Method} {c : Code} {b L : Nat} {xs : Nat → Int32} {G : eG} {cJ : ClassId} {Q : State → Prop} (hlt : l.stackTraces = false) (hL : LX p s m c b L xs G cJ) {fe ob ou B i : Nat} {f sf : Nat → Int32} {ff : Nat → Nat → Int32} {old sz len : Nat} {tx : Nat → Int32} {hsn thr : Int32} {lo : Nat → Int64} {WC MC : va_W} {H : Heap} {locs : List Loc} {ls : Array Slot} {cells slots : Nat} (hD : LD s G cJ b fe ob ou B f sf ff old sz len tx hsn thr lo WC MC H locs ls i) (hi : i + 4 ≤ L) (hLL : L ≤ 2048) (hB : B + 10000 < 700000000) (hc1 : cells + 1 ≤ 601024) (hs1 : slots + 6 ≤ 7293034) (hz1 : 1 ≤ sz)  (kk : ∀ (f sf : Nat → Int32) (ff : Nat → Nat → Int32) (old sz len : Nat) (tx : Nat → Int32) (hsn thr : Int32) (lo : Nat → Int64) (WC MC : va_W) (H : Heap) (locs : List Loc) (ls : Array Slot), LD s G cJ b fe ob ou (B + 10000) f sf ff old sz len tx hsn thr lo WC MC H locs ls i → W p l e room_1 s m #[Value.ref b] below meth c H locs (cells + 1) (slots + 6) Q (F0 m 1491 ls [])) : W p l e room_1 s m #[Value.ref b] below meth c H locs cells slots Q (F0 m 788 ls []) := by
  obtain ⟨hx, hb, hml, hown, hts, hE, hJ0, hKJ, hXs, hbl⟩ := hL
  obtain ⟨hX, hR, hM, hP, hDD, hS, hl⟩ := hD
  have hbA : ¬ AA s b := Nat.not_le.mpr hbl
  have hJ : JX s H := hJ0.kept (fun a ha => hS.2.1 a ha (Nat.not_le.mpr ha))
  refine lv_aload_n hx hb dL_law_788 rfl (lv_at hl 1 rfl) ?_
  refine lv_aload_n hx hb dL_law_789 rfl (lv_at hl 3 rfl) ?_
  have hPa : va_P G.1 vwCl (([(ou, .inl (cJ, 1, .inr (.inl lo)))] ++ WC) ++ MC) H := by rw [List.append_assoc]; exact hP
  have hDa : va_D (AA s) (([(ou, .inl (cJ, 1, .inr (.inl lo)))] ++ WC) ++ MC) := by rw [List.append_assoc]; exact hDD
  refine mcall (st1 := [.int (nI 0)]) (vx_runSW (As := [.ref fe, .ref ou]) (rest := []) ⟨hx, hb, hml, hown, hts⟩ (CL_undo_ok l G cJ hX hR (by omega) hz1) (vx_cwSW 2 hts gL_law_L_undo rfl rfl rfl (by decide +kernel) ⟨Nat.le_of_ble_eq_true rfl, Nat.le_of_ble_eq_true rfl⟩) (PL.preS hE hJ hKJ ⟨P_pre hPa, (D_pre hDa).weaken (fun _ _ _ _ => trivial)⟩) rfl rfl hl.1 rfl (lv_room (Nat.le_of_ble_eq_true rfl)) dL_law_790 ⟨by show cells + 0 ≤ 601024; omega, by show slots + 0 ≤ 7293034; omega⟩) hS (fun q _ h => inW_D (D_pre hDa) q h) (fun q h => inW_D (D_pre hDa) q h) rfl (fun H1 locs1 hB9 hz9 hk1 hS => ?_)
  obtain ⟨WC', hX', hP1, hD1⟩ := hB9
  obtain ⟨hP2, hD2⟩ := jnF (w1 := [(ou, .inl (cJ, 1, .inr (.inl (vp_updL lo 0 (((nI (sz - 1))).toInt64)))))] ++ WC') hPa hDa hk1 hP1 hD1
  generalize H1 = H at hP2 hS ⊢
  replace hJ : JX s H := hJ0.kept (fun a ha => hS.2.1 a ha (Nat.not_le.mpr ha))
  have hPb : va_P G.1 vwCl (MC ++ ([(ou, .inl (cJ, 1, .inr (.inl (vp_updL lo 0 (((nI (sz - 1))).toInt64)))))] ++ WC')) H := P_perm List.perm_append_comm hP2
  have hDb : va_D (AA s) (MC ++ ([(ou, .inl (cJ, 1, .inr (.inl (vp_updL lo 0 (((nI (sz - 1))).toInt64)))))] ++ WC')) := D_perm List.perm_append_comm hD2
  refine lv_istore (lv' := [(5, .int (nI 0)), (0, .ref b), (1, .ref fe), (2, .ref ob), (3, .ref ou), (4, .int (nI i))]) hx hb dL_law_793 hl (by decide) rfl (fun ls hl => ?_)
  refine lv_aload_n hx hb dL_law_795 rfl (lv_at hl 3 rfl) ?_
  refine mcall (st1 := [.int (nI (sz - 1))]) (va_runV (As := []) (rest := []) ⟨hx, hb, hml, hown, hts⟩ (MX_undo_ok l G hM hR (by omega) hz1) (cwV 0 hts gL_law_X6_undo rfl rfl rfl (by decide +kernel) ⟨Nat.le_of_ble_eq_true rfl, Nat.le_of_ble_eq_true rfl⟩) (PJ.preV hE hJ (rs_recv hE.1 hM (P_pre hPb)) ⟨P_pre hPb, (D_pre hDb).weaken (fun _ _ _ _ => trivial)⟩) rfl rfl hl.1 rfl (lv_room (Nat.le_of_ble_eq_true rfl)) dL_law_796 ⟨by show _ + 0 ≤ 601024; omega, by show _ + 0 ≤ 7293034; omega⟩) hS (fun q _ h => inW_D (D_pre hDb) q h) (fun q h => inW_D (D_pre hDb) q h) rfl (fun H1 locs1 hB9 hz9 hk1 hS => ?_)
  obtain ⟨MC', hM', hP1, hD1⟩ := hB9
  obtain ⟨hP3, hD3⟩ := jnF (w1 := MC') hPb hDb hk1 hP1 hD1
  generalize H1 = H at hP3 hS ⊢
  refine lv_istore (lv' := [(6, .int (nI (sz - 1))), (5, .int (nI 0)), (0, .ref b), (1, .ref fe), (2, .ref ob), (3, .ref ou), (4, .int (nI i))]) hx hb dL_law_799 hl (by decide) rfl (fun ls hl => ?_)
  refine lv_aload_n hx hb dL_law_801 rfl (lv_at hl 4 rfl) ?_
  refine pcall (st1 := [.int (nI 0)]) (va_runV (As := []) (rest := []) ⟨hx, hb, hml, hown, hts⟩ (MX_thrown l G hM') (cwV 0 hts gL_law_X6_thrown rfl rfl rfl (by decide +kernel) ⟨Nat.le_of_ble_eq_true rfl, Nat.le_of_ble_eq_true rfl⟩) (PC.preV hE (rs_recv hE.1 hM' (P_pre hP3)) (P_pre hP3)) rfl rfl hl.1 rfl (lv_room (Nat.le_of_ble_eq_true rfl)) dL_law_802 ⟨by show _ + 0 ≤ 601024; omega, by show _ + 0 ≤ 7293034; omega⟩) rfl ?_
  refine lv_iload hx hb dL_law_805 (lv_at hl 1 rfl) ?_
  refine icmp_eqN (tgt := 812) hx hb (by decide) (by decide) dL_law_807 (by decide) (fun _ => ?_) (fun h => absurd rfl h)
  refine lv_iload hx hb dL_law_812 (lv_at hl 1 rfl) ?_
  refine if_neN (tgt := 829) hx hb (by decide) dL_law_814 (by decide) (fun h => absurd rfl h) (fun _ => ?_)
  refine lv_aload_n hx hb dL_law_817 rfl (lv_at hl 5 rfl) ?_
  refine lv_iconst (v := nI 0) hx hb dL_law_818 (by decide +kernel) ?_
  refine va_lald hx hb hKJ (P_pre (P_perm ((List.perm_append_comm).trans (by rw [List.append_assoc])) hP3)) 0 0 rfl rfl (vp_in_nI (n := 0) (N := 1) (by decide) (by decide)) dL_law_819 ?_
  refine tS (st' := [.long (((nI (sz - 1))).toInt64)]) (by rw [nI_clamp (by decide), pk_uLs]) ?_
  refine lv_iload hx hb dL_law_820 (lv_at hl 0 rfl) ?_
  refine lv_i2l (v := ((nI (sz - 1))).toInt64) hx hb dL_law_822 rfl ?_
  refine lv_lcmpE hx hb dL_law_823 ?_
  refine if_eqN (tgt := 829) hx hb (by decide) dL_law_824 (by decide) (fun _ => ?_) (fun h => absurd rfl h)
  refine lv_goto (tgt := 1491) hx hb dL_law_829 (by decide) ?_
  refine W.widen (k := cells + 1) (n := slots + 6) (by omega) (by omega) ?_
  have hP4 : va_P G.1 vwCl ([(ou, .inl (cJ, 1, .inr (.inl (vp_updL lo 0 (((nI (sz - 1))).toInt64)))))] ++ (WC' ++ MC')) H := P_perm ((List.perm_append_comm).trans (by rw [List.append_assoc])) hP3
  have hD4 : va_D (AA s) ([(ou, .inl (cJ, 1, .inr (.inl (vp_updL lo 0 (((nI (sz - 1))).toInt64)))))] ++ (WC' ++ MC')) := D_perm ((List.perm_append_comm).trans (by rw [List.append_assoc])) hD3
  exact kk _ _ _ _ _ _ _ _ _ _ _ _ _ _ _ ⟨hX', PR_mono (by omega) (PR_sz (Nat.sub_le _ _) (PR_f hR (hR.2.2.1 _ (Nat.mod_lt _ (by decide))))), hM', hP4, hD4, hS, lv_sub hl [2, 3, 4, 5, 6] rfl⟩
set_option maxHeartbeats 4000000 in
set_option maxRecDepth 100000 in
theorem seg_undo_e1 {p : Program} {l : Launch} {e : Env} {s : State} {m : MethodId} {below : List Frame} {meth : Method} {c : Code} {b L : Nat} {xs : Nat → Int32} {G : eG} {cJ : ClassId} {Q : State → Prop} (hlt : l.stackTraces = false) (hL : LX p s m c b L xs G cJ) {fe ob ou B i : Nat} {f sf : Nat → Int32} {ff : Nat → Nat → Int32} {old sz len : Nat} {tx : Nat → Int32} {hsn thr : Int32} {lo : Nat → Int64} {WC MC : va_W} {H : Heap} {locs : List Loc} {ls : Array Slot} {cells slots : Nat} (hD : LD s G cJ b fe ob ou B f sf ff old sz len tx hsn thr lo WC MC H locs ls i) (hi : i + 4 ≤ L) (hLL : L ≤ 2048) (hB : B + 10000 < 700000000) (hc1 : cells + 1 ≤ 601024) (hs1 : slots + 6 ≤ 7293034) (hz0 : sz = 0)  (kk : ∀ (f sf : Nat → Int32) (ff : Nat → Nat → Int32) (old sz len : Nat) (tx : Nat → Int32) (hsn thr : Int32) (lo : Nat → Int64) (WC MC : va_W) (H : Heap) (locs : List Loc) (ls : Array Slot), LD s G cJ b fe ob ou (B + 10000) f sf ff old sz len tx hsn thr lo WC MC H locs ls i → W p l e room_1 s m #[Value.ref b] below meth c H locs (cells + 1) (slots + 6) Q (F0 m 1491 ls [])) : W p l e room_1 s m #[Value.ref b] below meth c H locs cells slots Q (F0 m 788 ls []) := by
  obtain ⟨hx, hb, hml, hown, hts, hE, hJ0, hKJ, hXs, hbl⟩ := hL
  obtain ⟨hX, hR, hM, hP, hDD, hS, hl⟩ := hD
  have hbA : ¬ AA s b := Nat.not_le.mpr hbl
  have hJ : JX s H := hJ0.kept (fun a ha => hS.2.1 a ha (Nat.not_le.mpr ha))
  refine lv_aload_n hx hb dL_law_788 rfl (lv_at hl 1 rfl) ?_
  refine lv_aload_n hx hb dL_law_789 rfl (lv_at hl 3 rfl) ?_
  have hPw : va_P G.1 vwCl (WC ++ MC) H := P_pre (P_perm List.perm_append_comm hP)
  have hDw : va_D (AA s) (WC ++ MC) := D_pre (D_perm List.perm_append_comm hDD)
  refine mcall (st1 := [.int (nI 1)]) (vx_runSW (As := [.ref fe, .ref ou]) (rest := []) ⟨hx, hb, hml, hown, hts⟩ (CL_undo_e1 l hlt G cJ hX hR (by omega) hz0) (vx_cwSW 2 hts gL_law_L_undo rfl rfl rfl (by decide +kernel) ⟨Nat.le_of_ble_eq_true rfl, Nat.le_of_ble_eq_true rfl⟩) (PL.preS hE hJ hKJ ⟨P_pre hPw, (D_pre hDw).weaken (fun _ _ _ _ => trivial)⟩) rfl rfl hl.1 rfl (lv_room (Nat.le_of_ble_eq_true rfl)) dL_law_790 ⟨by show cells + 1 ≤ 601024; omega, by show slots + 6 ≤ 7293034; omega⟩) hS (fun q _ h => (h : False).elim) (fun q h => (h : False).elim) rfl (fun H1 locs1 hB9 hz9 hk1 hS => ?_)
  have hP2 := P_kept hP (fun a ha => hk1 a ha (fun h => h))
  generalize H1 = H at hP2 hS ⊢
  replace hJ : JX s H := hJ0.kept (fun a ha => hS.2.1 a ha (Nat.not_le.mpr ha))
  have hPa : va_P G.1 vwCl (([(ou, .inl (cJ, 1, .inr (.inl lo)))] ++ WC) ++ MC) H := by rw [List.append_assoc]; exact hP2
  have hDa : va_D (AA s) (([(ou, .inl (cJ, 1, .inr (.inl lo)))] ++ WC) ++ MC) := by rw [List.append_assoc]; exact hDD
  have hPb : va_P G.1 vwCl (MC ++ ([(ou, .inl (cJ, 1, .inr (.inl lo)))] ++ WC)) H := P_perm List.perm_append_comm hPa
  have hDb : va_D (AA s) (MC ++ ([(ou, .inl (cJ, 1, .inr (.inl lo)))] ++ WC)) := D_perm List.perm_append_comm hDa
  refine lv_istore (lv' := [(5, .int (nI 1)), (0, .ref b), (1, .ref fe), (2, .ref ob), (3, .ref ou), (4, .int (nI i))]) hx hb dL_law_793 hl (by decide) rfl (fun ls hl => ?_)
  refine lv_aload_n hx hb dL_law_795 rfl (lv_at hl 3 rfl) ?_
  refine mcall (st1 := [.int (nI 0)]) (va_runV (As := []) (rest := []) ⟨hx, hb, hml, hown, hts⟩ (MX_undo_e1 l G hM hR (by omega) hz0) (cwV 0 hts gL_law_X6_undo rfl rfl rfl (by decide +kernel) ⟨Nat.le_of_ble_eq_true rfl, Nat.le_of_ble_eq_true rfl⟩) (PJ.preV hE hJ (rs_recv hE.1 hM (P_pre hPb)) ⟨P_pre hPb, (D_pre hDb).weaken (fun _ _ _ _ => trivial)⟩) rfl rfl hl.1 rfl (lv_room (Nat.le_of_ble_eq_true rfl)) dL_law_796 ⟨by show _ + 0 ≤ 601024; omega, by show _ + 0 ≤ 7293034; omega⟩) hS (fun q _ h => inW_D (D_pre hDb) q h) (fun q h => inW_D (D_pre hDb) q h) rfl (fun H1 locs1 hB9 hz9 hk1 hS => ?_)
  obtain ⟨MC', hM', hP1, hD1⟩ := hB9
  obtain ⟨hP3, hD3⟩ := jnF (w1 := MC') hPb hDb hk1 hP1 hD1
  generalize H1 = H at hP3 hS ⊢
  refine lv_istore (lv' := [(6, .int (nI 0)), (5, .int (nI 1)), (0, .ref b), (1, .ref fe), (2, .ref ob), (3, .ref ou), (4, .int (nI i))]) hx hb dL_law_799 hl (by decide) rfl (fun ls hl => ?_)
  refine lv_aload_n hx hb dL_law_801 rfl (lv_at hl 4 rfl) ?_
  refine pcall (st1 := [.int (nI 1)]) (va_runV (As := []) (rest := []) ⟨hx, hb, hml, hown, hts⟩ (MX_thrown l G hM') (cwV 0 hts gL_law_X6_thrown rfl rfl rfl (by decide +kernel) ⟨Nat.le_of_ble_eq_true rfl, Nat.le_of_ble_eq_true rfl⟩) (PC.preV hE (rs_recv hE.1 hM' (P_pre hP3)) (P_pre hP3)) rfl rfl hl.1 rfl (lv_room (Nat.le_of_ble_eq_true rfl)) dL_law_802 ⟨by show _ + 0 ≤ 601024; omega, by show _ + 0 ≤ 7293034; omega⟩) rfl ?_
  refine lv_iload hx hb dL_law_805 (lv_at hl 1 rfl) ?_
  refine icmp_eqN (tgt := 812) hx hb (by decide) (by decide) dL_law_807 (by decide) (fun _ => ?_) (fun h => absurd rfl h)
  refine lv_iload hx hb dL_law_812 (lv_at hl 1 rfl) ?_
  refine if_neN (tgt := 829) hx hb (by decide) dL_law_814 (by decide) (fun _ => ?_) (fun h => absurd h (by decide))
  refine lv_goto (tgt := 1491) hx hb dL_law_829 (by decide) ?_
  refine W.widen (k := cells + 1) (n := slots + 6) (by omega) (by omega) ?_
  have hP4 : va_P G.1 vwCl ([(ou, .inl (cJ, 1, .inr (.inl lo)))] ++ (WC ++ MC')) H := P_perm ((List.perm_append_comm).trans (by rw [List.append_assoc])) hP3
  have hD4 : va_D (AA s) ([(ou, .inl (cJ, 1, .inr (.inl lo)))] ++ (WC ++ MC')) := D_perm ((List.perm_append_comm).trans (by rw [List.append_assoc])) hD3
  exact kk _ _ _ _ _ _ _ _ _ _ _ _ _ _ _ ⟨hX, PR_mono (by omega) hR, hM', hP4, hD4, hS, lv_sub hl [2, 3, 4, 5, 6] rfl⟩
set_option maxHeartbeats 4000000 in
set_option maxRecDepth 100000 in
theorem seg_section_ok {p : Program} {l : Launch} {e : Env} {s : State} {m : MethodId} {below : List Frame} {meth : Method} {c : Code} {b L : Nat} {xs : Nat → Int32} {G : eG} {cJ : ClassId} {Q : State → Prop} (hlt : l.stackTraces = false) (hL : LX p s m c b L xs G cJ) {fe ob ou B i : Nat} {f sf : Nat → Int32} {ff : Nat → Nat → Int32} {old sz len : Nat} {tx : Nat → Int32} {hsn thr : Int32} {lo : Nat → Int64} {WC MC : va_W} {H : Heap} {locs : List Loc} {ls : Array Slot} {cells slots : Nat} (hD : LD s G cJ b fe ob ou B f sf ff old sz len tx hsn thr lo WC MC H locs ls i) (hi : i + 4 ≤ L) (hLL : L ≤ 2048) (hB : B + 10000 < 700000000) (hc1 : cells + 1 ≤ 601024) (hs1 : slots + 6 ≤ 7293034) (k : Nat) (x : Nat) (hk : k < 20) (hw : x < 3) (e1 : xs (i + 1) = nI k) (e2 : xs (i + 2) = nI x) (kk : ∀ (f sf : Nat → Int32) (ff : Nat → Nat → Int32) (old sz len : Nat) (tx : Nat → Int32) (hsn thr : Int32) (lo : Nat → Int64) (WC MC : va_W) (H : Heap) (locs : List Loc) (ls : Array Slot), LD s G cJ b fe ob ou (B + 10000) f sf ff old sz len tx hsn thr lo WC MC H locs ls i → W p l e room_1 s m #[Value.ref b] below meth c H locs (cells + 1) (slots + 6) Q (F0 m 1491 ls [])) : W p l e room_1 s m #[Value.ref b] below meth c H locs cells slots Q (F0 m 832 ls []) := by
  obtain ⟨hx, hb, hml, hown, hts, hE, hJ0, hKJ, hXs, hbl⟩ := hL
  obtain ⟨hX, hR, hM, hP, hDD, hS, hl⟩ := hD
  have hbA : ¬ AA s b := Nat.not_le.mpr hbl
  have hJ : JX s H := hJ0.kept (fun a ha => hS.2.1 a ha (Nat.not_le.mpr ha))
  refine lv_aload_n hx hb dL_law_832 rfl (lv_at hl 1 rfl) ?_
  refine lv_aload_n hx hb dL_law_833 rfl (lv_at hl 0 rfl) ?_
  refine lv_iload hx hb dL_law_834 (lv_at hl 4 rfl) ?_
  refine lv_iconst (v := nI 1) hx hb dL_law_836 (by decide +kernel) ?_
  refine iaddN hx hb dL_law_837 ?_
  refine va_sld hx hb hXs hbl hbA hS (vp_in_nI (n := i + 1) (by omega) (by omega)) dL_law_838 ?_
  refine tS (st' := [.int (nI k), .ref fe]) (by rw [nI_clamp (by omega), e1]) ?_
  refine lv_aload_n hx hb dL_law_839 rfl (lv_at hl 0 rfl) ?_
  refine lv_iload hx hb dL_law_840 (lv_at hl 4 rfl) ?_
  refine lv_iconst (v := nI 2) hx hb dL_law_842 (by decide +kernel) ?_
  refine iaddN hx hb dL_law_843 ?_
  refine va_sld hx hb hXs hbl hbA hS (vp_in_nI (n := i + 2) (by omega) (by omega)) dL_law_844 ?_
  refine tS (st' := [.int (nI x), .int (nI k), .ref fe]) (by rw [nI_clamp (by omega), e2]) ?_
  refine lv_aload_n hx hb dL_law_845 rfl (lv_at hl 3 rfl) ?_
  have hPa : va_P G.1 vwCl (([(ou, .inl (cJ, 1, .inr (.inl lo)))] ++ WC) ++ MC) H := by rw [List.append_assoc]; exact hP
  have hDa : va_D (AA s) (([(ou, .inl (cJ, 1, .inr (.inl lo)))] ++ WC) ++ MC) := by rw [List.append_assoc]; exact hDD
  refine mcall (st1 := [.int (nI 0)]) (vx_runSW (As := [.ref fe, .int (nI k), .int (nI x), .ref ou]) (rest := []) ⟨hx, hb, hml, hown, hts⟩ (CL_section_ok l G cJ hX hR (by omega) k x hk hw) (vx_cwSW 4 hts gL_law_L_section rfl rfl rfl (by decide +kernel) ⟨Nat.le_of_ble_eq_true rfl, Nat.le_of_ble_eq_true rfl⟩) (PL.preS hE hJ hKJ ⟨P_pre hPa, (D_pre hDa).weaken (fun _ _ _ _ => trivial)⟩) rfl rfl hl.1 rfl (lv_room (Nat.le_of_ble_eq_true rfl)) dL_law_846 ⟨by show cells + 0 ≤ 601024; omega, by show slots + 0 ≤ 7293034; omega⟩) hS (fun q _ h => inW_D (D_pre hDa) q h) (fun q h => inW_D (D_pre hDa) q h) rfl (fun H1 locs1 hB9 hz9 hk1 hS => ?_)
  obtain ⟨WC', hX', hP1, hD1⟩ := hB9
  obtain ⟨hP2, hD2⟩ := jnF (w1 := [(ou, .inl (cJ, 1, .inr (.inl (vp_updL lo 0 (((fOf f k x)).toInt64)))))] ++ WC') hPa hDa hk1 hP1 hD1
  generalize H1 = H at hP2 hS ⊢
  replace hJ : JX s H := hJ0.kept (fun a ha => hS.2.1 a ha (Nat.not_le.mpr ha))
  have hPb : va_P G.1 vwCl (MC ++ ([(ou, .inl (cJ, 1, .inr (.inl (vp_updL lo 0 (((fOf f k x)).toInt64)))))] ++ WC')) H := P_perm List.perm_append_comm hP2
  have hDb : va_D (AA s) (MC ++ ([(ou, .inl (cJ, 1, .inr (.inl (vp_updL lo 0 (((fOf f k x)).toInt64)))))] ++ WC')) := D_perm List.perm_append_comm hD2
  refine lv_istore (lv' := [(5, .int (nI 0)), (0, .ref b), (1, .ref fe), (2, .ref ob), (3, .ref ou), (4, .int (nI i))]) hx hb dL_law_849 hl (by decide) rfl (fun ls hl => ?_)
  refine lv_aload_n hx hb dL_law_851 rfl (lv_at hl 3 rfl) ?_
  refine lv_aload_n hx hb dL_law_852 rfl (lv_at hl 1 rfl) ?_
  refine lv_iload hx hb dL_law_853 (lv_at hl 5 rfl) ?_
  refine lv_iconst (v := nI 1) hx hb dL_law_855 (by decide +kernel) ?_
  refine iaddN hx hb dL_law_856 ?_
  refine va_sld hx hb hXs hbl hbA hS (vp_in_nI (n := i + 1) (by omega) (by omega)) dL_law_857 ?_
  refine tS (st' := [.int (nI k), .ref ob]) (by rw [nI_clamp (by omega), e1]) ?_
  refine lv_aload_n hx hb dL_law_858 rfl (lv_at hl 1 rfl) ?_
  refine lv_iload hx hb dL_law_859 (lv_at hl 5 rfl) ?_
  refine lv_iconst (v := nI 2) hx hb dL_law_861 (by decide +kernel) ?_
  refine iaddN hx hb dL_law_862 ?_
  refine va_sld hx hb hXs hbl hbA hS (vp_in_nI (n := i + 2) (by omega) (by omega)) dL_law_863 ?_
  refine tS (st' := [.int (nI x), .int (nI k), .ref ob]) (by rw [nI_clamp (by omega), e2]) ?_
  refine mcall (st1 := [.int (fOf f k x)]) (va_runV (As := [.int (nI k), .int (nI x)]) (rest := []) ⟨hx, hb, hml, hown, hts⟩ (MX_section_ok l G hM hR (by omega) k x hk hw) (cwV 2 hts gL_law_X6_section rfl rfl rfl (by decide +kernel) ⟨Nat.le_of_ble_eq_true rfl, Nat.le_of_ble_eq_true rfl⟩) (PJ.preV hE hJ (rs_recv hE.1 hM (P_pre hPb)) ⟨P_pre hPb, (D_pre hDb).weaken (fun _ _ _ _ => trivial)⟩) rfl rfl hl.1 rfl (lv_room (Nat.le_of_ble_eq_true rfl)) dL_law_864 ⟨by show _ + 0 ≤ 601024; omega, by show _ + 0 ≤ 7293034; omega⟩) hS (fun q _ h => inW_D (D_pre hDb) q h) (fun q h => inW_D (D_pre hDb) q h) rfl (fun H1 locs1 hB9 hz9 hk1 hS => ?_)
  obtain ⟨MC', hM', hP1, hD1⟩ := hB9
  obtain ⟨hP3, hD3⟩ := jnF (w1 := MC') hPb hDb hk1 hP1 hD1
  generalize H1 = H at hP3 hS ⊢
  refine lv_istore (lv' := [(6, .int (fOf f k x)), (5, .int (nI 0)), (0, .ref b), (1, .ref fe), (2, .ref ob), (3, .ref ou), (4, .int (nI i))]) hx hb dL_law_867 hl (by decide) rfl (fun ls hl => ?_)
  refine lv_aload_n hx hb dL_law_869 rfl (lv_at hl 4 rfl) ?_
  refine pcall (st1 := [.int (nI 0)]) (va_runV (As := []) (rest := []) ⟨hx, hb, hml, hown, hts⟩ (MX_thrown l G hM') (cwV 0 hts gL_law_X6_thrown rfl rfl rfl (by decide +kernel) ⟨Nat.le_of_ble_eq_true rfl, Nat.le_of_ble_eq_true rfl⟩) (PC.preV hE (rs_recv hE.1 hM' (P_pre hP3)) (P_pre hP3)) rfl rfl hl.1 rfl (lv_room (Nat.le_of_ble_eq_true rfl)) dL_law_870 ⟨by show _ + 0 ≤ 601024; omega, by show _ + 0 ≤ 7293034; omega⟩) rfl ?_
  refine lv_iload hx hb dL_law_873 (lv_at hl 1 rfl) ?_
  refine icmp_eqN (tgt := 880) hx hb (by decide) (by decide) dL_law_875 (by decide) (fun _ => ?_) (fun h => absurd rfl h)
  refine lv_iload hx hb dL_law_880 (lv_at hl 1 rfl) ?_
  refine if_neN (tgt := 897) hx hb (by decide) dL_law_882 (by decide) (fun h => absurd rfl h) (fun _ => ?_)
  refine lv_aload_n hx hb dL_law_885 rfl (lv_at hl 5 rfl) ?_
  refine lv_iconst (v := nI 0) hx hb dL_law_886 (by decide +kernel) ?_
  refine va_lald hx hb hKJ (P_pre (P_perm ((List.perm_append_comm).trans (by rw [List.append_assoc])) hP3)) 0 0 rfl rfl (vp_in_nI (n := 0) (N := 1) (by decide) (by decide)) dL_law_887 ?_
  refine tS (st' := [.long (((fOf f k x)).toInt64)]) (by rw [nI_clamp (by decide), pk_uLs]) ?_
  refine lv_iload hx hb dL_law_888 (lv_at hl 0 rfl) ?_
  refine lv_i2l (v := ((fOf f k x)).toInt64) hx hb dL_law_890 rfl ?_
  refine lv_lcmpE hx hb dL_law_891 ?_
  refine if_eqN (tgt := 897) hx hb (by decide) dL_law_892 (by decide) (fun _ => ?_) (fun h => absurd rfl h)
  refine lv_goto (tgt := 1491) hx hb dL_law_897 (by decide) ?_
  refine W.widen (k := cells + 1) (n := slots + 6) (by omega) (by omega) ?_
  have hP4 : va_P G.1 vwCl ([(ou, .inl (cJ, 1, .inr (.inl (vp_updL lo 0 (((fOf f k x)).toInt64)))))] ++ (WC' ++ MC')) H := P_perm ((List.perm_append_comm).trans (by rw [List.append_assoc])) hP3
  have hD4 : va_D (AA s) ([(ou, .inl (cJ, 1, .inr (.inl (vp_updL lo 0 (((fOf f k x)).toInt64)))))] ++ (WC' ++ MC')) := D_perm ((List.perm_append_comm).trans (by rw [List.append_assoc])) hD3
  exact kk _ _ _ _ _ _ _ _ _ _ _ _ _ _ _ ⟨hX', PR_mono (by omega) hR, hM', hP4, hD4, hS, lv_sub hl [2, 3, 4, 5, 6] rfl⟩
set_option maxHeartbeats 4000000 in
set_option maxRecDepth 100000 in
theorem seg_section_e1 {p : Program} {l : Launch} {e : Env} {s : State} {m : MethodId} {below : List Frame} {meth : Method} {c : Code} {b L : Nat} {xs : Nat → Int32} {G : eG} {cJ : ClassId} {Q : State → Prop} (hlt : l.stackTraces = false) (hL : LX p s m c b L xs G cJ) {fe ob ou B i : Nat} {f sf : Nat → Int32} {ff : Nat → Nat → Int32} {old sz len : Nat} {tx : Nat → Int32} {hsn thr : Int32} {lo : Nat → Int64} {WC MC : va_W} {H : Heap} {locs : List Loc} {ls : Array Slot} {cells slots : Nat} (hD : LD s G cJ b fe ob ou B f sf ff old sz len tx hsn thr lo WC MC H locs ls i) (hi : i + 4 ≤ L) (hLL : L ≤ 2048) (hB : B + 10000 < 700000000) (hc1 : cells + 1 ≤ 601024) (hs1 : slots + 6 ≤ 7293034) (hNo : ¬ (nI 0 ≤ (xs (i + 1)) ∧ (xs (i + 1)) ≤ nI 19))  (kk : ∀ (f sf : Nat → Int32) (ff : Nat → Nat → Int32) (old sz len : Nat) (tx : Nat → Int32) (hsn thr : Int32) (lo : Nat → Int64) (WC MC : va_W) (H : Heap) (locs : List Loc) (ls : Array Slot), LD s G cJ b fe ob ou (B + 10000) f sf ff old sz len tx hsn thr lo WC MC H locs ls i → W p l e room_1 s m #[Value.ref b] below meth c H locs (cells + 1) (slots + 6) Q (F0 m 1491 ls [])) : W p l e room_1 s m #[Value.ref b] below meth c H locs cells slots Q (F0 m 832 ls []) := by
  obtain ⟨hx, hb, hml, hown, hts, hE, hJ0, hKJ, hXs, hbl⟩ := hL
  obtain ⟨hX, hR, hM, hP, hDD, hS, hl⟩ := hD
  have hbA : ¬ AA s b := Nat.not_le.mpr hbl
  have hJ : JX s H := hJ0.kept (fun a ha => hS.2.1 a ha (Nat.not_le.mpr ha))
  refine lv_aload_n hx hb dL_law_832 rfl (lv_at hl 1 rfl) ?_
  refine lv_aload_n hx hb dL_law_833 rfl (lv_at hl 0 rfl) ?_
  refine lv_iload hx hb dL_law_834 (lv_at hl 4 rfl) ?_
  refine lv_iconst (v := nI 1) hx hb dL_law_836 (by decide +kernel) ?_
  refine iaddN hx hb dL_law_837 ?_
  refine va_sld hx hb hXs hbl hbA hS (vp_in_nI (n := i + 1) (by omega) (by omega)) dL_law_838 ?_
  refine tS (st' := [.int (xs (i + 1)), .ref fe]) (by rw [nI_clamp (by omega)]) ?_
  refine lv_aload_n hx hb dL_law_839 rfl (lv_at hl 0 rfl) ?_
  refine lv_iload hx hb dL_law_840 (lv_at hl 4 rfl) ?_
  refine lv_iconst (v := nI 2) hx hb dL_law_842 (by decide +kernel) ?_
  refine iaddN hx hb dL_law_843 ?_
  refine va_sld hx hb hXs hbl hbA hS (vp_in_nI (n := i + 2) (by omega) (by omega)) dL_law_844 ?_
  refine tS (st' := [.int (xs (i + 2)), .int (xs (i + 1)), .ref fe]) (by rw [nI_clamp (by omega)]) ?_
  refine lv_aload_n hx hb dL_law_845 rfl (lv_at hl 3 rfl) ?_
  have hPw : va_P G.1 vwCl (WC ++ MC) H := P_pre (P_perm List.perm_append_comm hP)
  have hDw : va_D (AA s) (WC ++ MC) := D_pre (D_perm List.perm_append_comm hDD)
  refine mcall (st1 := [.int (nI 1)]) (vx_runSW (As := [.ref fe, .int (xs (i + 1)), .int (xs (i + 2)), .ref ou]) (rest := []) ⟨hx, hb, hml, hown, hts⟩ (CL_section_e1 l hlt G cJ hX hR (by omega) (xs (i + 1)) (xs (i + 2)) hNo) (vx_cwSW 4 hts gL_law_L_section rfl rfl rfl (by decide +kernel) ⟨Nat.le_of_ble_eq_true rfl, Nat.le_of_ble_eq_true rfl⟩) (PL.preS hE hJ hKJ ⟨P_pre hPw, (D_pre hDw).weaken (fun _ _ _ _ => trivial)⟩) rfl rfl hl.1 rfl (lv_room (Nat.le_of_ble_eq_true rfl)) dL_law_846 ⟨by show cells + 1 ≤ 601024; omega, by show slots + 6 ≤ 7293034; omega⟩) hS (fun q _ h => (h : False).elim) (fun q h => (h : False).elim) rfl (fun H1 locs1 hB9 hz9 hk1 hS => ?_)
  have hP2 := P_kept hP (fun a ha => hk1 a ha (fun h => h))
  generalize H1 = H at hP2 hS ⊢
  replace hJ : JX s H := hJ0.kept (fun a ha => hS.2.1 a ha (Nat.not_le.mpr ha))
  have hPa : va_P G.1 vwCl (([(ou, .inl (cJ, 1, .inr (.inl lo)))] ++ WC) ++ MC) H := by rw [List.append_assoc]; exact hP2
  have hDa : va_D (AA s) (([(ou, .inl (cJ, 1, .inr (.inl lo)))] ++ WC) ++ MC) := by rw [List.append_assoc]; exact hDD
  have hPb : va_P G.1 vwCl (MC ++ ([(ou, .inl (cJ, 1, .inr (.inl lo)))] ++ WC)) H := P_perm List.perm_append_comm hPa
  have hDb : va_D (AA s) (MC ++ ([(ou, .inl (cJ, 1, .inr (.inl lo)))] ++ WC)) := D_perm List.perm_append_comm hDa
  refine lv_istore (lv' := [(5, .int (nI 1)), (0, .ref b), (1, .ref fe), (2, .ref ob), (3, .ref ou), (4, .int (nI i))]) hx hb dL_law_849 hl (by decide) rfl (fun ls hl => ?_)
  refine lv_aload_n hx hb dL_law_851 rfl (lv_at hl 3 rfl) ?_
  refine lv_aload_n hx hb dL_law_852 rfl (lv_at hl 1 rfl) ?_
  refine lv_iload hx hb dL_law_853 (lv_at hl 5 rfl) ?_
  refine lv_iconst (v := nI 1) hx hb dL_law_855 (by decide +kernel) ?_
  refine iaddN hx hb dL_law_856 ?_
  refine va_sld hx hb hXs hbl hbA hS (vp_in_nI (n := i + 1) (by omega) (by omega)) dL_law_857 ?_
  refine tS (st' := [.int (xs (i + 1)), .ref ob]) (by rw [nI_clamp (by omega)]) ?_
  refine lv_aload_n hx hb dL_law_858 rfl (lv_at hl 1 rfl) ?_
  refine lv_iload hx hb dL_law_859 (lv_at hl 5 rfl) ?_
  refine lv_iconst (v := nI 2) hx hb dL_law_861 (by decide +kernel) ?_
  refine iaddN hx hb dL_law_862 ?_
  refine va_sld hx hb hXs hbl hbA hS (vp_in_nI (n := i + 2) (by omega) (by omega)) dL_law_863 ?_
  refine tS (st' := [.int (xs (i + 2)), .int (xs (i + 1)), .ref ob]) (by rw [nI_clamp (by omega)]) ?_
  refine mcall (st1 := [.int (nI 0)]) (va_runV (As := [.int (xs (i + 1)), .int (xs (i + 2))]) (rest := []) ⟨hx, hb, hml, hown, hts⟩ (MX_section_e1 l G hM hR (by omega) (xs (i + 1)) (xs (i + 2)) hNo) (cwV 2 hts gL_law_X6_section rfl rfl rfl (by decide +kernel) ⟨Nat.le_of_ble_eq_true rfl, Nat.le_of_ble_eq_true rfl⟩) (PJ.preV hE hJ (rs_recv hE.1 hM (P_pre hPb)) ⟨P_pre hPb, (D_pre hDb).weaken (fun _ _ _ _ => trivial)⟩) rfl rfl hl.1 rfl (lv_room (Nat.le_of_ble_eq_true rfl)) dL_law_864 ⟨by show _ + 0 ≤ 601024; omega, by show _ + 0 ≤ 7293034; omega⟩) hS (fun q _ h => inW_D (D_pre hDb) q h) (fun q h => inW_D (D_pre hDb) q h) rfl (fun H1 locs1 hB9 hz9 hk1 hS => ?_)
  obtain ⟨MC', hM', hP1, hD1⟩ := hB9
  obtain ⟨hP3, hD3⟩ := jnF (w1 := MC') hPb hDb hk1 hP1 hD1
  generalize H1 = H at hP3 hS ⊢
  refine lv_istore (lv' := [(6, .int (nI 0)), (5, .int (nI 1)), (0, .ref b), (1, .ref fe), (2, .ref ob), (3, .ref ou), (4, .int (nI i))]) hx hb dL_law_867 hl (by decide) rfl (fun ls hl => ?_)
  refine lv_aload_n hx hb dL_law_869 rfl (lv_at hl 4 rfl) ?_
  refine pcall (st1 := [.int (nI 1)]) (va_runV (As := []) (rest := []) ⟨hx, hb, hml, hown, hts⟩ (MX_thrown l G hM') (cwV 0 hts gL_law_X6_thrown rfl rfl rfl (by decide +kernel) ⟨Nat.le_of_ble_eq_true rfl, Nat.le_of_ble_eq_true rfl⟩) (PC.preV hE (rs_recv hE.1 hM' (P_pre hP3)) (P_pre hP3)) rfl rfl hl.1 rfl (lv_room (Nat.le_of_ble_eq_true rfl)) dL_law_870 ⟨by show _ + 0 ≤ 601024; omega, by show _ + 0 ≤ 7293034; omega⟩) rfl ?_
  refine lv_iload hx hb dL_law_873 (lv_at hl 1 rfl) ?_
  refine icmp_eqN (tgt := 880) hx hb (by decide) (by decide) dL_law_875 (by decide) (fun _ => ?_) (fun h => absurd rfl h)
  refine lv_iload hx hb dL_law_880 (lv_at hl 1 rfl) ?_
  refine if_neN (tgt := 897) hx hb (by decide) dL_law_882 (by decide) (fun _ => ?_) (fun h => absurd h (by decide))
  refine lv_goto (tgt := 1491) hx hb dL_law_897 (by decide) ?_
  refine W.widen (k := cells + 1) (n := slots + 6) (by omega) (by omega) ?_
  have hP4 : va_P G.1 vwCl ([(ou, .inl (cJ, 1, .inr (.inl lo)))] ++ (WC ++ MC')) H := P_perm ((List.perm_append_comm).trans (by rw [List.append_assoc])) hP3
  have hD4 : va_D (AA s) ([(ou, .inl (cJ, 1, .inr (.inl lo)))] ++ (WC ++ MC')) := D_perm ((List.perm_append_comm).trans (by rw [List.append_assoc])) hD3
  exact kk _ _ _ _ _ _ _ _ _ _ _ _ _ _ _ ⟨hX, PR_mono (by omega) hR, hM', hP4, hD4, hS, lv_sub hl [2, 3, 4, 5, 6] rfl⟩
set_option maxHeartbeats 4000000 in
set_option maxRecDepth 100000 in
theorem seg_section_e2 {p : Program} {l : Launch} {e : Env} {s : State} {m : MethodId} {below : List Frame} {meth : Method} {c : Code} {b L : Nat} {xs : Nat → Int32} {G : eG} {cJ : ClassId} {Q : State → Prop} (hlt : l.stackTraces = false) (hL : LX p s m c b L xs G cJ) {fe ob ou B i : Nat} {f sf : Nat → Int32} {ff : Nat → Nat → Int32} {old sz len : Nat} {tx : Nat → Int32} {hsn thr : Int32} {lo : Nat → Int64} {WC MC : va_W} {H : Heap} {locs : List Loc} {ls : Array Slot} {cells slots : Nat} (hD : LD s G cJ b fe ob ou B f sf ff old sz len tx hsn thr lo WC MC H locs ls i) (hi : i + 4 ≤ L) (hLL : L ≤ 2048) (hB : B + 10000 < 700000000) (hc1 : cells + 1 ≤ 601024) (hs1 : slots + 6 ≤ 7293034) (h1 : nI 0 ≤ (xs (i + 1)) ∧ (xs (i + 1)) ≤ nI 19) (hNo : ¬ (nI 0 ≤ (xs (i + 2)) ∧ (xs (i + 2)) ≤ nI 2))  (kk : ∀ (f sf : Nat → Int32) (ff : Nat → Nat → Int32) (old sz len : Nat) (tx : Nat → Int32) (hsn thr : Int32) (lo : Nat → Int64) (WC MC : va_W) (H : Heap) (locs : List Loc) (ls : Array Slot), LD s G cJ b fe ob ou (B + 10000) f sf ff old sz len tx hsn thr lo WC MC H locs ls i → W p l e room_1 s m #[Value.ref b] below meth c H locs (cells + 1) (slots + 6) Q (F0 m 1491 ls [])) : W p l e room_1 s m #[Value.ref b] below meth c H locs cells slots Q (F0 m 832 ls []) := by
  obtain ⟨hx, hb, hml, hown, hts, hE, hJ0, hKJ, hXs, hbl⟩ := hL
  obtain ⟨hX, hR, hM, hP, hDD, hS, hl⟩ := hD
  have hbA : ¬ AA s b := Nat.not_le.mpr hbl
  have hJ : JX s H := hJ0.kept (fun a ha => hS.2.1 a ha (Nat.not_le.mpr ha))
  refine lv_aload_n hx hb dL_law_832 rfl (lv_at hl 1 rfl) ?_
  refine lv_aload_n hx hb dL_law_833 rfl (lv_at hl 0 rfl) ?_
  refine lv_iload hx hb dL_law_834 (lv_at hl 4 rfl) ?_
  refine lv_iconst (v := nI 1) hx hb dL_law_836 (by decide +kernel) ?_
  refine iaddN hx hb dL_law_837 ?_
  refine va_sld hx hb hXs hbl hbA hS (vp_in_nI (n := i + 1) (by omega) (by omega)) dL_law_838 ?_
  refine tS (st' := [.int (xs (i + 1)), .ref fe]) (by rw [nI_clamp (by omega)]) ?_
  refine lv_aload_n hx hb dL_law_839 rfl (lv_at hl 0 rfl) ?_
  refine lv_iload hx hb dL_law_840 (lv_at hl 4 rfl) ?_
  refine lv_iconst (v := nI 2) hx hb dL_law_842 (by decide +kernel) ?_
  refine iaddN hx hb dL_law_843 ?_
  refine va_sld hx hb hXs hbl hbA hS (vp_in_nI (n := i + 2) (by omega) (by omega)) dL_law_844 ?_
  refine tS (st' := [.int (xs (i + 2)), .int (xs (i + 1)), .ref fe]) (by rw [nI_clamp (by omega)]) ?_
  refine lv_aload_n hx hb dL_law_845 rfl (lv_at hl 3 rfl) ?_
  have hPw : va_P G.1 vwCl (WC ++ MC) H := P_pre (P_perm List.perm_append_comm hP)
  have hDw : va_D (AA s) (WC ++ MC) := D_pre (D_perm List.perm_append_comm hDD)
  refine mcall (st1 := [.int (nI 2)]) (vx_runSW (As := [.ref fe, .int (xs (i + 1)), .int (xs (i + 2)), .ref ou]) (rest := []) ⟨hx, hb, hml, hown, hts⟩ (CL_section_e2 l hlt G cJ hX hR (by omega) (xs (i + 1)) (xs (i + 2)) h1 hNo) (vx_cwSW 4 hts gL_law_L_section rfl rfl rfl (by decide +kernel) ⟨Nat.le_of_ble_eq_true rfl, Nat.le_of_ble_eq_true rfl⟩) (PL.preS hE hJ hKJ ⟨P_pre hPw, (D_pre hDw).weaken (fun _ _ _ _ => trivial)⟩) rfl rfl hl.1 rfl (lv_room (Nat.le_of_ble_eq_true rfl)) dL_law_846 ⟨by show cells + 1 ≤ 601024; omega, by show slots + 6 ≤ 7293034; omega⟩) hS (fun q _ h => (h : False).elim) (fun q h => (h : False).elim) rfl (fun H1 locs1 hB9 hz9 hk1 hS => ?_)
  have hP2 := P_kept hP (fun a ha => hk1 a ha (fun h => h))
  generalize H1 = H at hP2 hS ⊢
  replace hJ : JX s H := hJ0.kept (fun a ha => hS.2.1 a ha (Nat.not_le.mpr ha))
  have hPa : va_P G.1 vwCl (([(ou, .inl (cJ, 1, .inr (.inl lo)))] ++ WC) ++ MC) H := by rw [List.append_assoc]; exact hP2
  have hDa : va_D (AA s) (([(ou, .inl (cJ, 1, .inr (.inl lo)))] ++ WC) ++ MC) := by rw [List.append_assoc]; exact hDD
  have hPb : va_P G.1 vwCl (MC ++ ([(ou, .inl (cJ, 1, .inr (.inl lo)))] ++ WC)) H := P_perm List.perm_append_comm hPa
  have hDb : va_D (AA s) (MC ++ ([(ou, .inl (cJ, 1, .inr (.inl lo)))] ++ WC)) := D_perm List.perm_append_comm hDa
  refine lv_istore (lv' := [(5, .int (nI 2)), (0, .ref b), (1, .ref fe), (2, .ref ob), (3, .ref ou), (4, .int (nI i))]) hx hb dL_law_849 hl (by decide) rfl (fun ls hl => ?_)
  refine lv_aload_n hx hb dL_law_851 rfl (lv_at hl 3 rfl) ?_
  refine lv_aload_n hx hb dL_law_852 rfl (lv_at hl 1 rfl) ?_
  refine lv_iload hx hb dL_law_853 (lv_at hl 5 rfl) ?_
  refine lv_iconst (v := nI 1) hx hb dL_law_855 (by decide +kernel) ?_
  refine iaddN hx hb dL_law_856 ?_
  refine va_sld hx hb hXs hbl hbA hS (vp_in_nI (n := i + 1) (by omega) (by omega)) dL_law_857 ?_
  refine tS (st' := [.int (xs (i + 1)), .ref ob]) (by rw [nI_clamp (by omega)]) ?_
  refine lv_aload_n hx hb dL_law_858 rfl (lv_at hl 1 rfl) ?_
  refine lv_iload hx hb dL_law_859 (lv_at hl 5 rfl) ?_
  refine lv_iconst (v := nI 2) hx hb dL_law_861 (by decide +kernel) ?_
  refine iaddN hx hb dL_law_862 ?_
  refine va_sld hx hb hXs hbl hbA hS (vp_in_nI (n := i + 2) (by omega) (by omega)) dL_law_863 ?_
  refine tS (st' := [.int (xs (i + 2)), .int (xs (i + 1)), .ref ob]) (by rw [nI_clamp (by omega)]) ?_
  refine mcall (st1 := [.int (nI 0)]) (va_runV (As := [.int (xs (i + 1)), .int (xs (i + 2))]) (rest := []) ⟨hx, hb, hml, hown, hts⟩ (MX_section_e2 l G hM hR (by omega) (xs (i + 1)) (xs (i + 2)) h1 hNo) (cwV 2 hts gL_law_X6_section rfl rfl rfl (by decide +kernel) ⟨Nat.le_of_ble_eq_true rfl, Nat.le_of_ble_eq_true rfl⟩) (PJ.preV hE hJ (rs_recv hE.1 hM (P_pre hPb)) ⟨P_pre hPb, (D_pre hDb).weaken (fun _ _ _ _ => trivial)⟩) rfl rfl hl.1 rfl (lv_room (Nat.le_of_ble_eq_true rfl)) dL_law_864 ⟨by show _ + 0 ≤ 601024; omega, by show _ + 0 ≤ 7293034; omega⟩) hS (fun q _ h => inW_D (D_pre hDb) q h) (fun q h => inW_D (D_pre hDb) q h) rfl (fun H1 locs1 hB9 hz9 hk1 hS => ?_)
  obtain ⟨MC', hM', hP1, hD1⟩ := hB9
  obtain ⟨hP3, hD3⟩ := jnF (w1 := MC') hPb hDb hk1 hP1 hD1
  generalize H1 = H at hP3 hS ⊢
  refine lv_istore (lv' := [(6, .int (nI 0)), (5, .int (nI 2)), (0, .ref b), (1, .ref fe), (2, .ref ob), (3, .ref ou), (4, .int (nI i))]) hx hb dL_law_867 hl (by decide) rfl (fun ls hl => ?_)
  refine lv_aload_n hx hb dL_law_869 rfl (lv_at hl 4 rfl) ?_
  refine pcall (st1 := [.int (nI 2)]) (va_runV (As := []) (rest := []) ⟨hx, hb, hml, hown, hts⟩ (MX_thrown l G hM') (cwV 0 hts gL_law_X6_thrown rfl rfl rfl (by decide +kernel) ⟨Nat.le_of_ble_eq_true rfl, Nat.le_of_ble_eq_true rfl⟩) (PC.preV hE (rs_recv hE.1 hM' (P_pre hP3)) (P_pre hP3)) rfl rfl hl.1 rfl (lv_room (Nat.le_of_ble_eq_true rfl)) dL_law_870 ⟨by show _ + 0 ≤ 601024; omega, by show _ + 0 ≤ 7293034; omega⟩) rfl ?_
  refine lv_iload hx hb dL_law_873 (lv_at hl 1 rfl) ?_
  refine icmp_eqN (tgt := 880) hx hb (by decide) (by decide) dL_law_875 (by decide) (fun _ => ?_) (fun h => absurd rfl h)
  refine lv_iload hx hb dL_law_880 (lv_at hl 1 rfl) ?_
  refine if_neN (tgt := 897) hx hb (by decide) dL_law_882 (by decide) (fun _ => ?_) (fun h => absurd h (by decide))
  refine lv_goto (tgt := 1491) hx hb dL_law_897 (by decide) ?_
  refine W.widen (k := cells + 1) (n := slots + 6) (by omega) (by omega) ?_
  have hP4 : va_P G.1 vwCl ([(ou, .inl (cJ, 1, .inr (.inl lo)))] ++ (WC ++ MC')) H := P_perm ((List.perm_append_comm).trans (by rw [List.append_assoc])) hP3
  have hD4 : va_D (AA s) ([(ou, .inl (cJ, 1, .inr (.inl lo)))] ++ (WC ++ MC')) := D_perm ((List.perm_append_comm).trans (by rw [List.append_assoc])) hD3
  exact kk _ _ _ _ _ _ _ _ _ _ _ _ _ _ _ ⟨hX, PR_mono (by omega) hR, hM', hP4, hD4, hS, lv_sub hl [2, 3, 4, 5, 6] rfl⟩
set_option maxHeartbeats 4000000 in
set_option maxRecDepth 100000 in
theorem seg_waiting_in {p : Program} {l : Launch} {e : Env} {s : State} {m : MethodId} {below : List Frame} {meth : Method} {c : Code} {b L : Nat} {xs : Nat → Int32} {G : eG} {cJ : ClassId} {Q : State → Prop} (hlt : l.stackTraces = false) (hL : LX p s m c b L xs G cJ) {fe ob ou B i : Nat} {f sf : Nat → Int32} {ff : Nat → Nat → Int32} {old sz len : Nat} {tx : Nat → Int32} {hsn thr : Int32} {lo : Nat → Int64} {WC MC : va_W} {H : Heap} {locs : List Loc} {ls : Array Slot} {cells slots : Nat} (hD : LD s G cJ b fe ob ou B f sf ff old sz len tx hsn thr lo WC MC H locs ls i) (hi : i + 4 ≤ L) (hLL : L ≤ 2048) (hB : B + 10000 < 700000000) (hc1 : cells + 1 ≤ 601024) (hs1 : slots + 6 ≤ 7293034) (b_ : Nat) (j : Nat) (hb2 : b_ < 2) (hj : j < 2147483648) (hjq : j < nn f (57 + 11 * b_)) (e1 : xs (i + 1) = nI b_) (e2 : xs (i + 2) = nI j) (kk : ∀ (f sf : Nat → Int32) (ff : Nat → Nat → Int32) (old sz len : Nat) (tx : Nat → Int32) (hsn thr : Int32) (lo : Nat → Int64) (WC MC : va_W) (H : Heap) (locs : List Loc) (ls : Array Slot), LD s G cJ b fe ob ou (B + 10000) f sf ff old sz len tx hsn thr lo WC MC H locs ls i → W p l e room_1 s m #[Value.ref b] below meth c H locs (cells + 1) (slots + 6) Q (F0 m 1491 ls [])) : W p l e room_1 s m #[Value.ref b] below meth c H locs cells slots Q (F0 m 900 ls []) := by
  obtain ⟨hx, hb, hml, hown, hts, hE, hJ0, hKJ, hXs, hbl⟩ := hL
  obtain ⟨hX, hR, hM, hP, hDD, hS, hl⟩ := hD
  have hbA : ¬ AA s b := Nat.not_le.mpr hbl
  have hJ : JX s H := hJ0.kept (fun a ha => hS.2.1 a ha (Nat.not_le.mpr ha))
  refine lv_aload_n hx hb dL_law_900 rfl (lv_at hl 1 rfl) ?_
  refine lv_aload_n hx hb dL_law_901 rfl (lv_at hl 0 rfl) ?_
  refine lv_iload hx hb dL_law_902 (lv_at hl 4 rfl) ?_
  refine lv_iconst (v := nI 1) hx hb dL_law_904 (by decide +kernel) ?_
  refine iaddN hx hb dL_law_905 ?_
  refine va_sld hx hb hXs hbl hbA hS (vp_in_nI (n := i + 1) (by omega) (by omega)) dL_law_906 ?_
  refine tS (st' := [.int (nI b_), .ref fe]) (by rw [nI_clamp (by omega), e1]) ?_
  refine lv_aload_n hx hb dL_law_907 rfl (lv_at hl 0 rfl) ?_
  refine lv_iload hx hb dL_law_908 (lv_at hl 4 rfl) ?_
  refine lv_iconst (v := nI 2) hx hb dL_law_910 (by decide +kernel) ?_
  refine iaddN hx hb dL_law_911 ?_
  refine va_sld hx hb hXs hbl hbA hS (vp_in_nI (n := i + 2) (by omega) (by omega)) dL_law_912 ?_
  refine tS (st' := [.int (nI j), .int (nI b_), .ref fe]) (by rw [nI_clamp (by omega), e2]) ?_
  refine lv_aload_n hx hb dL_law_913 rfl (lv_at hl 3 rfl) ?_
  have hPa : va_P G.1 vwCl (([(ou, .inl (cJ, 1, .inr (.inl lo)))] ++ WC) ++ MC) H := by rw [List.append_assoc]; exact hP
  have hDa : va_D (AA s) (([(ou, .inl (cJ, 1, .inr (.inl lo)))] ++ WC) ++ MC) := by rw [List.append_assoc]; exact hDD
  refine mcall (st1 := [.int (nI 0)]) (vx_runSW (As := [.ref fe, .int (nI b_), .int (nI j), .ref ou]) (rest := []) ⟨hx, hb, hml, hown, hts⟩ (CL_waiting_in l G cJ hX hR (by omega) b_ j hb2 hj hjq) (vx_cwSW 4 hts gL_law_L_waiting rfl rfl rfl (by decide +kernel) ⟨Nat.le_of_ble_eq_true rfl, Nat.le_of_ble_eq_true rfl⟩) (PL.preS hE hJ hKJ ⟨P_pre hPa, (D_pre hDa).weaken (fun _ _ _ _ => trivial)⟩) rfl rfl hl.1 rfl (lv_room (Nat.le_of_ble_eq_true rfl)) dL_law_914 ⟨by show cells + 0 ≤ 601024; omega, by show slots + 0 ≤ 7293034; omega⟩) hS (fun q _ h => inW_D (D_pre hDa) q h) (fun q h => inW_D (D_pre hDa) q h) rfl (fun H1 locs1 hB9 hz9 hk1 hS => ?_)
  obtain ⟨WC', hX', hP1, hD1⟩ := hB9
  obtain ⟨hP2, hD2⟩ := jnF (w1 := [(ou, .inl (cJ, 1, .inr (.inl (vp_updL lo 0 (((f (((57 + (11 * b_)) + 1) + j))).toInt64)))))] ++ WC') hPa hDa hk1 hP1 hD1
  generalize H1 = H at hP2 hS ⊢
  replace hJ : JX s H := hJ0.kept (fun a ha => hS.2.1 a ha (Nat.not_le.mpr ha))
  have hPb : va_P G.1 vwCl (MC ++ ([(ou, .inl (cJ, 1, .inr (.inl (vp_updL lo 0 (((f (((57 + (11 * b_)) + 1) + j))).toInt64)))))] ++ WC')) H := P_perm List.perm_append_comm hP2
  have hDb : va_D (AA s) (MC ++ ([(ou, .inl (cJ, 1, .inr (.inl (vp_updL lo 0 (((f (((57 + (11 * b_)) + 1) + j))).toInt64)))))] ++ WC')) := D_perm List.perm_append_comm hD2
  refine lv_istore (lv' := [(5, .int (nI 0)), (0, .ref b), (1, .ref fe), (2, .ref ob), (3, .ref ou), (4, .int (nI i))]) hx hb dL_law_917 hl (by decide) rfl (fun ls hl => ?_)
  refine lv_aload_n hx hb dL_law_919 rfl (lv_at hl 3 rfl) ?_
  refine lv_aload_n hx hb dL_law_920 rfl (lv_at hl 1 rfl) ?_
  refine lv_iload hx hb dL_law_921 (lv_at hl 5 rfl) ?_
  refine lv_iconst (v := nI 1) hx hb dL_law_923 (by decide +kernel) ?_
  refine iaddN hx hb dL_law_924 ?_
  refine va_sld hx hb hXs hbl hbA hS (vp_in_nI (n := i + 1) (by omega) (by omega)) dL_law_925 ?_
  refine tS (st' := [.int (nI b_), .ref ob]) (by rw [nI_clamp (by omega), e1]) ?_
  refine lv_aload_n hx hb dL_law_926 rfl (lv_at hl 1 rfl) ?_
  refine lv_iload hx hb dL_law_927 (lv_at hl 5 rfl) ?_
  refine lv_iconst (v := nI 2) hx hb dL_law_929 (by decide +kernel) ?_
  refine iaddN hx hb dL_law_930 ?_
  refine va_sld hx hb hXs hbl hbA hS (vp_in_nI (n := i + 2) (by omega) (by omega)) dL_law_931 ?_
  refine tS (st' := [.int (nI j), .int (nI b_), .ref ob]) (by rw [nI_clamp (by omega), e2]) ?_
  refine mcall (st1 := [.int (f (((57 + (11 * b_)) + 1) + j))]) (va_runV (As := [.int (nI b_), .int (nI j)]) (rest := []) ⟨hx, hb, hml, hown, hts⟩ (MX_waiting_in l G hM hR (by omega) b_ j hb2 hj hjq) (cwV 2 hts gL_law_X6_waiting rfl rfl rfl (by decide +kernel) ⟨Nat.le_of_ble_eq_true rfl, Nat.le_of_ble_eq_true rfl⟩) (PJ.preV hE hJ (rs_recv hE.1 hM (P_pre hPb)) ⟨P_pre hPb, (D_pre hDb).weaken (fun _ _ _ _ => trivial)⟩) rfl rfl hl.1 rfl (lv_room (Nat.le_of_ble_eq_true rfl)) dL_law_932 ⟨by show _ + 0 ≤ 601024; omega, by show _ + 0 ≤ 7293034; omega⟩) hS (fun q _ h => inW_D (D_pre hDb) q h) (fun q h => inW_D (D_pre hDb) q h) rfl (fun H1 locs1 hB9 hz9 hk1 hS => ?_)
  obtain ⟨MC', hM', hP1, hD1⟩ := hB9
  obtain ⟨hP3, hD3⟩ := jnF (w1 := MC') hPb hDb hk1 hP1 hD1
  generalize H1 = H at hP3 hS ⊢
  refine lv_istore (lv' := [(6, .int (f (((57 + (11 * b_)) + 1) + j))), (5, .int (nI 0)), (0, .ref b), (1, .ref fe), (2, .ref ob), (3, .ref ou), (4, .int (nI i))]) hx hb dL_law_935 hl (by decide) rfl (fun ls hl => ?_)
  refine lv_aload_n hx hb dL_law_937 rfl (lv_at hl 4 rfl) ?_
  refine pcall (st1 := [.int (nI 0)]) (va_runV (As := []) (rest := []) ⟨hx, hb, hml, hown, hts⟩ (MX_thrown l G hM') (cwV 0 hts gL_law_X6_thrown rfl rfl rfl (by decide +kernel) ⟨Nat.le_of_ble_eq_true rfl, Nat.le_of_ble_eq_true rfl⟩) (PC.preV hE (rs_recv hE.1 hM' (P_pre hP3)) (P_pre hP3)) rfl rfl hl.1 rfl (lv_room (Nat.le_of_ble_eq_true rfl)) dL_law_938 ⟨by show _ + 0 ≤ 601024; omega, by show _ + 0 ≤ 7293034; omega⟩) rfl ?_
  refine lv_iload hx hb dL_law_941 (lv_at hl 1 rfl) ?_
  refine icmp_eqN (tgt := 948) hx hb (by decide) (by decide) dL_law_943 (by decide) (fun _ => ?_) (fun h => absurd rfl h)
  refine lv_iload hx hb dL_law_948 (lv_at hl 1 rfl) ?_
  refine if_neN (tgt := 965) hx hb (by decide) dL_law_950 (by decide) (fun h => absurd rfl h) (fun _ => ?_)
  refine lv_aload_n hx hb dL_law_953 rfl (lv_at hl 5 rfl) ?_
  refine lv_iconst (v := nI 0) hx hb dL_law_954 (by decide +kernel) ?_
  refine va_lald hx hb hKJ (P_pre (P_perm ((List.perm_append_comm).trans (by rw [List.append_assoc])) hP3)) 0 0 rfl rfl (vp_in_nI (n := 0) (N := 1) (by decide) (by decide)) dL_law_955 ?_
  refine tS (st' := [.long (((f (((57 + (11 * b_)) + 1) + j))).toInt64)]) (by rw [nI_clamp (by decide), pk_uLs]) ?_
  refine lv_iload hx hb dL_law_956 (lv_at hl 0 rfl) ?_
  refine lv_i2l (v := ((f (((57 + (11 * b_)) + 1) + j))).toInt64) hx hb dL_law_958 rfl ?_
  refine lv_lcmpE hx hb dL_law_959 ?_
  refine if_eqN (tgt := 965) hx hb (by decide) dL_law_960 (by decide) (fun _ => ?_) (fun h => absurd rfl h)
  refine lv_goto (tgt := 1491) hx hb dL_law_965 (by decide) ?_
  refine W.widen (k := cells + 1) (n := slots + 6) (by omega) (by omega) ?_
  have hP4 : va_P G.1 vwCl ([(ou, .inl (cJ, 1, .inr (.inl (vp_updL lo 0 (((f (((57 + (11 * b_)) + 1) + j))).toInt64)))))] ++ (WC' ++ MC')) H := P_perm ((List.perm_append_comm).trans (by rw [List.append_assoc])) hP3
  have hD4 : va_D (AA s) ([(ou, .inl (cJ, 1, .inr (.inl (vp_updL lo 0 (((f (((57 + (11 * b_)) + 1) + j))).toInt64)))))] ++ (WC' ++ MC')) := D_perm ((List.perm_append_comm).trans (by rw [List.append_assoc])) hD3
  exact kk _ _ _ _ _ _ _ _ _ _ _ _ _ _ _ ⟨hX', PR_mono (by omega) hR, hM', hP4, hD4, hS, lv_sub hl [2, 3, 4, 5, 6] rfl⟩
set_option maxHeartbeats 4000000 in
set_option maxRecDepth 100000 in
theorem seg_waiting_out {p : Program} {l : Launch} {e : Env} {s : State} {m : MethodId} {below : List Frame} {meth : Method} {c : Code} {b L : Nat} {xs : Nat → Int32} {G : eG} {cJ : ClassId} {Q : State → Prop} (hlt : l.stackTraces = false) (hL : LX p s m c b L xs G cJ) {fe ob ou B i : Nat} {f sf : Nat → Int32} {ff : Nat → Nat → Int32} {old sz len : Nat} {tx : Nat → Int32} {hsn thr : Int32} {lo : Nat → Int64} {WC MC : va_W} {H : Heap} {locs : List Loc} {ls : Array Slot} {cells slots : Nat} (hD : LD s G cJ b fe ob ou B f sf ff old sz len tx hsn thr lo WC MC H locs ls i) (hi : i + 4 ≤ L) (hLL : L ≤ 2048) (hB : B + 10000 < 700000000) (hc1 : cells + 1 ≤ 601024) (hs1 : slots + 6 ≤ 7293034) (b_ : Nat) (j : Nat) (hb2 : b_ < 2) (hj : j < 2147483648) (hjq : nn f (57 + 11 * b_) ≤ j) (e1 : xs (i + 1) = nI b_) (e2 : xs (i + 2) = nI j) (kk : ∀ (f sf : Nat → Int32) (ff : Nat → Nat → Int32) (old sz len : Nat) (tx : Nat → Int32) (hsn thr : Int32) (lo : Nat → Int64) (WC MC : va_W) (H : Heap) (locs : List Loc) (ls : Array Slot), LD s G cJ b fe ob ou (B + 10000) f sf ff old sz len tx hsn thr lo WC MC H locs ls i → W p l e room_1 s m #[Value.ref b] below meth c H locs (cells + 1) (slots + 6) Q (F0 m 1491 ls [])) : W p l e room_1 s m #[Value.ref b] below meth c H locs cells slots Q (F0 m 900 ls []) := by
  obtain ⟨hx, hb, hml, hown, hts, hE, hJ0, hKJ, hXs, hbl⟩ := hL
  obtain ⟨hX, hR, hM, hP, hDD, hS, hl⟩ := hD
  have hbA : ¬ AA s b := Nat.not_le.mpr hbl
  have hJ : JX s H := hJ0.kept (fun a ha => hS.2.1 a ha (Nat.not_le.mpr ha))
  refine lv_aload_n hx hb dL_law_900 rfl (lv_at hl 1 rfl) ?_
  refine lv_aload_n hx hb dL_law_901 rfl (lv_at hl 0 rfl) ?_
  refine lv_iload hx hb dL_law_902 (lv_at hl 4 rfl) ?_
  refine lv_iconst (v := nI 1) hx hb dL_law_904 (by decide +kernel) ?_
  refine iaddN hx hb dL_law_905 ?_
  refine va_sld hx hb hXs hbl hbA hS (vp_in_nI (n := i + 1) (by omega) (by omega)) dL_law_906 ?_
  refine tS (st' := [.int (nI b_), .ref fe]) (by rw [nI_clamp (by omega), e1]) ?_
  refine lv_aload_n hx hb dL_law_907 rfl (lv_at hl 0 rfl) ?_
  refine lv_iload hx hb dL_law_908 (lv_at hl 4 rfl) ?_
  refine lv_iconst (v := nI 2) hx hb dL_law_910 (by decide +kernel) ?_
  refine iaddN hx hb dL_law_911 ?_
  refine va_sld hx hb hXs hbl hbA hS (vp_in_nI (n := i + 2) (by omega) (by omega)) dL_law_912 ?_
  refine tS (st' := [.int (nI j), .int (nI b_), .ref fe]) (by rw [nI_clamp (by omega), e2]) ?_
  refine lv_aload_n hx hb dL_law_913 rfl (lv_at hl 3 rfl) ?_
  have hPa : va_P G.1 vwCl (([(ou, .inl (cJ, 1, .inr (.inl lo)))] ++ WC) ++ MC) H := by rw [List.append_assoc]; exact hP
  have hDa : va_D (AA s) (([(ou, .inl (cJ, 1, .inr (.inl lo)))] ++ WC) ++ MC) := by rw [List.append_assoc]; exact hDD
  refine mcall (st1 := [.int (nI 0)]) (vx_runSW (As := [.ref fe, .int (nI b_), .int (nI j), .ref ou]) (rest := []) ⟨hx, hb, hml, hown, hts⟩ (CL_waiting_out l G cJ hX hR (by omega) b_ j hb2 hj hjq) (vx_cwSW 4 hts gL_law_L_waiting rfl rfl rfl (by decide +kernel) ⟨Nat.le_of_ble_eq_true rfl, Nat.le_of_ble_eq_true rfl⟩) (PL.preS hE hJ hKJ ⟨P_pre hPa, (D_pre hDa).weaken (fun _ _ _ _ => trivial)⟩) rfl rfl hl.1 rfl (lv_room (Nat.le_of_ble_eq_true rfl)) dL_law_914 ⟨by show cells + 0 ≤ 601024; omega, by show slots + 0 ≤ 7293034; omega⟩) hS (fun q _ h => inW_D (D_pre hDa) q h) (fun q h => inW_D (D_pre hDa) q h) rfl (fun H1 locs1 hB9 hz9 hk1 hS => ?_)
  obtain ⟨WC', hX', hP1, hD1⟩ := hB9
  obtain ⟨hP2, hD2⟩ := jnF (w1 := [(ou, .inl (cJ, 1, .inr (.inl (vp_updL lo 0 ((((-1))).toInt64)))))] ++ WC') hPa hDa hk1 hP1 hD1
  generalize H1 = H at hP2 hS ⊢
  replace hJ : JX s H := hJ0.kept (fun a ha => hS.2.1 a ha (Nat.not_le.mpr ha))
  have hPb : va_P G.1 vwCl (MC ++ ([(ou, .inl (cJ, 1, .inr (.inl (vp_updL lo 0 ((((-1))).toInt64)))))] ++ WC')) H := P_perm List.perm_append_comm hP2
  have hDb : va_D (AA s) (MC ++ ([(ou, .inl (cJ, 1, .inr (.inl (vp_updL lo 0 ((((-1))).toInt64)))))] ++ WC')) := D_perm List.perm_append_comm hD2
  refine lv_istore (lv' := [(5, .int (nI 0)), (0, .ref b), (1, .ref fe), (2, .ref ob), (3, .ref ou), (4, .int (nI i))]) hx hb dL_law_917 hl (by decide) rfl (fun ls hl => ?_)
  refine lv_aload_n hx hb dL_law_919 rfl (lv_at hl 3 rfl) ?_
  refine lv_aload_n hx hb dL_law_920 rfl (lv_at hl 1 rfl) ?_
  refine lv_iload hx hb dL_law_921 (lv_at hl 5 rfl) ?_
  refine lv_iconst (v := nI 1) hx hb dL_law_923 (by decide +kernel) ?_
  refine iaddN hx hb dL_law_924 ?_
  refine va_sld hx hb hXs hbl hbA hS (vp_in_nI (n := i + 1) (by omega) (by omega)) dL_law_925 ?_
  refine tS (st' := [.int (nI b_), .ref ob]) (by rw [nI_clamp (by omega), e1]) ?_
  refine lv_aload_n hx hb dL_law_926 rfl (lv_at hl 1 rfl) ?_
  refine lv_iload hx hb dL_law_927 (lv_at hl 5 rfl) ?_
  refine lv_iconst (v := nI 2) hx hb dL_law_929 (by decide +kernel) ?_
  refine iaddN hx hb dL_law_930 ?_
  refine va_sld hx hb hXs hbl hbA hS (vp_in_nI (n := i + 2) (by omega) (by omega)) dL_law_931 ?_
  refine tS (st' := [.int (nI j), .int (nI b_), .ref ob]) (by rw [nI_clamp (by omega), e2]) ?_
  refine mcall (st1 := [.int (-1)]) (va_runV (As := [.int (nI b_), .int (nI j)]) (rest := []) ⟨hx, hb, hml, hown, hts⟩ (MX_waiting_out l G hM hR (by omega) b_ j hb2 hj hjq) (cwV 2 hts gL_law_X6_waiting rfl rfl rfl (by decide +kernel) ⟨Nat.le_of_ble_eq_true rfl, Nat.le_of_ble_eq_true rfl⟩) (PJ.preV hE hJ (rs_recv hE.1 hM (P_pre hPb)) ⟨P_pre hPb, (D_pre hDb).weaken (fun _ _ _ _ => trivial)⟩) rfl rfl hl.1 rfl (lv_room (Nat.le_of_ble_eq_true rfl)) dL_law_932 ⟨by show _ + 0 ≤ 601024; omega, by show _ + 0 ≤ 7293034; omega⟩) hS (fun q _ h => inW_D (D_pre hDb) q h) (fun q h => inW_D (D_pre hDb) q h) rfl (fun H1 locs1 hB9 hz9 hk1 hS => ?_)
  obtain ⟨MC', hM', hP1, hD1⟩ := hB9
  obtain ⟨hP3, hD3⟩ := jnF (w1 := MC') hPb hDb hk1 hP1 hD1
  generalize H1 = H at hP3 hS ⊢
  refine lv_istore (lv' := [(6, .int (-1)), (5, .int (nI 0)), (0, .ref b), (1, .ref fe), (2, .ref ob), (3, .ref ou), (4, .int (nI i))]) hx hb dL_law_935 hl (by decide) rfl (fun ls hl => ?_)
  refine lv_aload_n hx hb dL_law_937 rfl (lv_at hl 4 rfl) ?_
  refine pcall (st1 := [.int (nI 0)]) (va_runV (As := []) (rest := []) ⟨hx, hb, hml, hown, hts⟩ (MX_thrown l G hM') (cwV 0 hts gL_law_X6_thrown rfl rfl rfl (by decide +kernel) ⟨Nat.le_of_ble_eq_true rfl, Nat.le_of_ble_eq_true rfl⟩) (PC.preV hE (rs_recv hE.1 hM' (P_pre hP3)) (P_pre hP3)) rfl rfl hl.1 rfl (lv_room (Nat.le_of_ble_eq_true rfl)) dL_law_938 ⟨by show _ + 0 ≤ 601024; omega, by show _ + 0 ≤ 7293034; omega⟩) rfl ?_
  refine lv_iload hx hb dL_law_941 (lv_at hl 1 rfl) ?_
  refine icmp_eqN (tgt := 948) hx hb (by decide) (by decide) dL_law_943 (by decide) (fun _ => ?_) (fun h => absurd rfl h)
  refine lv_iload hx hb dL_law_948 (lv_at hl 1 rfl) ?_
  refine if_neN (tgt := 965) hx hb (by decide) dL_law_950 (by decide) (fun h => absurd rfl h) (fun _ => ?_)
  refine lv_aload_n hx hb dL_law_953 rfl (lv_at hl 5 rfl) ?_
  refine lv_iconst (v := nI 0) hx hb dL_law_954 (by decide +kernel) ?_
  refine va_lald hx hb hKJ (P_pre (P_perm ((List.perm_append_comm).trans (by rw [List.append_assoc])) hP3)) 0 0 rfl rfl (vp_in_nI (n := 0) (N := 1) (by decide) (by decide)) dL_law_955 ?_
  refine tS (st' := [.long ((((-1))).toInt64)]) (by rw [nI_clamp (by decide), pk_uLs]) ?_
  refine lv_iload hx hb dL_law_956 (lv_at hl 0 rfl) ?_
  refine lv_i2l (v := (((-1))).toInt64) hx hb dL_law_958 rfl ?_
  refine lv_lcmpE hx hb dL_law_959 ?_
  refine if_eqN (tgt := 965) hx hb (by decide) dL_law_960 (by decide) (fun _ => ?_) (fun h => absurd rfl h)
  refine lv_goto (tgt := 1491) hx hb dL_law_965 (by decide) ?_
  refine W.widen (k := cells + 1) (n := slots + 6) (by omega) (by omega) ?_
  have hP4 : va_P G.1 vwCl ([(ou, .inl (cJ, 1, .inr (.inl (vp_updL lo 0 ((((-1))).toInt64)))))] ++ (WC' ++ MC')) H := P_perm ((List.perm_append_comm).trans (by rw [List.append_assoc])) hP3
  have hD4 : va_D (AA s) ([(ou, .inl (cJ, 1, .inr (.inl (vp_updL lo 0 ((((-1))).toInt64)))))] ++ (WC' ++ MC')) := D_perm ((List.perm_append_comm).trans (by rw [List.append_assoc])) hD3
  exact kk _ _ _ _ _ _ _ _ _ _ _ _ _ _ _ ⟨hX', PR_mono (by omega) hR, hM', hP4, hD4, hS, lv_sub hl [2, 3, 4, 5, 6] rfl⟩
set_option maxHeartbeats 4000000 in
set_option maxRecDepth 100000 in
theorem seg_waiting_e1 {p : Program} {l : Launch} {e : Env} {s : State} {m : MethodId} {below : List Frame} {meth : Method} {c : Code} {b L : Nat} {xs : Nat → Int32} {G : eG} {cJ : ClassId} {Q : State → Prop} (hlt : l.stackTraces = false) (hL : LX p s m c b L xs G cJ) {fe ob ou B i : Nat} {f sf : Nat → Int32} {ff : Nat → Nat → Int32} {old sz len : Nat} {tx : Nat → Int32} {hsn thr : Int32} {lo : Nat → Int64} {WC MC : va_W} {H : Heap} {locs : List Loc} {ls : Array Slot} {cells slots : Nat} (hD : LD s G cJ b fe ob ou B f sf ff old sz len tx hsn thr lo WC MC H locs ls i) (hi : i + 4 ≤ L) (hLL : L ≤ 2048) (hB : B + 10000 < 700000000) (hc1 : cells + 1 ≤ 601024) (hs1 : slots + 6 ≤ 7293034) (hNo : ¬ (nI 0 ≤ (xs (i + 1)) ∧ (xs (i + 1)) ≤ nI 1))  (kk : ∀ (f sf : Nat → Int32) (ff : Nat → Nat → Int32) (old sz len : Nat) (tx : Nat → Int32) (hsn thr : Int32) (lo : Nat → Int64) (WC MC : va_W) (H : Heap) (locs : List Loc) (ls : Array Slot), LD s G cJ b fe ob ou (B + 10000) f sf ff old sz len tx hsn thr lo WC MC H locs ls i → W p l e room_1 s m #[Value.ref b] below meth c H locs (cells + 1) (slots + 6) Q (F0 m 1491 ls [])) : W p l e room_1 s m #[Value.ref b] below meth c H locs cells slots Q (F0 m 900 ls []) := by
  obtain ⟨hx, hb, hml, hown, hts, hE, hJ0, hKJ, hXs, hbl⟩ := hL
  obtain ⟨hX, hR, hM, hP, hDD, hS, hl⟩ := hD
  have hbA : ¬ AA s b := Nat.not_le.mpr hbl
  have hJ : JX s H := hJ0.kept (fun a ha => hS.2.1 a ha (Nat.not_le.mpr ha))
  refine lv_aload_n hx hb dL_law_900 rfl (lv_at hl 1 rfl) ?_
  refine lv_aload_n hx hb dL_law_901 rfl (lv_at hl 0 rfl) ?_
  refine lv_iload hx hb dL_law_902 (lv_at hl 4 rfl) ?_
  refine lv_iconst (v := nI 1) hx hb dL_law_904 (by decide +kernel) ?_
  refine iaddN hx hb dL_law_905 ?_
  refine va_sld hx hb hXs hbl hbA hS (vp_in_nI (n := i + 1) (by omega) (by omega)) dL_law_906 ?_
  refine tS (st' := [.int (xs (i + 1)), .ref fe]) (by rw [nI_clamp (by omega)]) ?_
  refine lv_aload_n hx hb dL_law_907 rfl (lv_at hl 0 rfl) ?_
  refine lv_iload hx hb dL_law_908 (lv_at hl 4 rfl) ?_
  refine lv_iconst (v := nI 2) hx hb dL_law_910 (by decide +kernel) ?_
  refine iaddN hx hb dL_law_911 ?_
  refine va_sld hx hb hXs hbl hbA hS (vp_in_nI (n := i + 2) (by omega) (by omega)) dL_law_912 ?_
  refine tS (st' := [.int (xs (i + 2)), .int (xs (i + 1)), .ref fe]) (by rw [nI_clamp (by omega)]) ?_
  refine lv_aload_n hx hb dL_law_913 rfl (lv_at hl 3 rfl) ?_
  have hPw : va_P G.1 vwCl (WC ++ MC) H := P_pre (P_perm List.perm_append_comm hP)
  have hDw : va_D (AA s) (WC ++ MC) := D_pre (D_perm List.perm_append_comm hDD)
  refine mcall (st1 := [.int (nI 1)]) (vx_runSW (As := [.ref fe, .int (xs (i + 1)), .int (xs (i + 2)), .ref ou]) (rest := []) ⟨hx, hb, hml, hown, hts⟩ (CL_waiting_e1 l hlt G cJ hX hR (by omega) (xs (i + 1)) (xs (i + 2)) hNo) (vx_cwSW 4 hts gL_law_L_waiting rfl rfl rfl (by decide +kernel) ⟨Nat.le_of_ble_eq_true rfl, Nat.le_of_ble_eq_true rfl⟩) (PL.preS hE hJ hKJ ⟨P_pre hPw, (D_pre hDw).weaken (fun _ _ _ _ => trivial)⟩) rfl rfl hl.1 rfl (lv_room (Nat.le_of_ble_eq_true rfl)) dL_law_914 ⟨by show cells + 1 ≤ 601024; omega, by show slots + 6 ≤ 7293034; omega⟩) hS (fun q _ h => (h : False).elim) (fun q h => (h : False).elim) rfl (fun H1 locs1 hB9 hz9 hk1 hS => ?_)
  have hP2 := P_kept hP (fun a ha => hk1 a ha (fun h => h))
  generalize H1 = H at hP2 hS ⊢
  replace hJ : JX s H := hJ0.kept (fun a ha => hS.2.1 a ha (Nat.not_le.mpr ha))
  have hPa : va_P G.1 vwCl (([(ou, .inl (cJ, 1, .inr (.inl lo)))] ++ WC) ++ MC) H := by rw [List.append_assoc]; exact hP2
  have hDa : va_D (AA s) (([(ou, .inl (cJ, 1, .inr (.inl lo)))] ++ WC) ++ MC) := by rw [List.append_assoc]; exact hDD
  have hPb : va_P G.1 vwCl (MC ++ ([(ou, .inl (cJ, 1, .inr (.inl lo)))] ++ WC)) H := P_perm List.perm_append_comm hPa
  have hDb : va_D (AA s) (MC ++ ([(ou, .inl (cJ, 1, .inr (.inl lo)))] ++ WC)) := D_perm List.perm_append_comm hDa
  refine lv_istore (lv' := [(5, .int (nI 1)), (0, .ref b), (1, .ref fe), (2, .ref ob), (3, .ref ou), (4, .int (nI i))]) hx hb dL_law_917 hl (by decide) rfl (fun ls hl => ?_)
  refine lv_aload_n hx hb dL_law_919 rfl (lv_at hl 3 rfl) ?_
  refine lv_aload_n hx hb dL_law_920 rfl (lv_at hl 1 rfl) ?_
  refine lv_iload hx hb dL_law_921 (lv_at hl 5 rfl) ?_
  refine lv_iconst (v := nI 1) hx hb dL_law_923 (by decide +kernel) ?_
  refine iaddN hx hb dL_law_924 ?_
  refine va_sld hx hb hXs hbl hbA hS (vp_in_nI (n := i + 1) (by omega) (by omega)) dL_law_925 ?_
  refine tS (st' := [.int (xs (i + 1)), .ref ob]) (by rw [nI_clamp (by omega)]) ?_
  refine lv_aload_n hx hb dL_law_926 rfl (lv_at hl 1 rfl) ?_
  refine lv_iload hx hb dL_law_927 (lv_at hl 5 rfl) ?_
  refine lv_iconst (v := nI 2) hx hb dL_law_929 (by decide +kernel) ?_
  refine iaddN hx hb dL_law_930 ?_
  refine va_sld hx hb hXs hbl hbA hS (vp_in_nI (n := i + 2) (by omega) (by omega)) dL_law_931 ?_
  refine tS (st' := [.int (xs (i + 2)), .int (xs (i + 1)), .ref ob]) (by rw [nI_clamp (by omega)]) ?_
  refine mcall (st1 := [.int (nI 0)]) (va_runV (As := [.int (xs (i + 1)), .int (xs (i + 2))]) (rest := []) ⟨hx, hb, hml, hown, hts⟩ (MX_waiting_e1 l G hM hR (by omega) (xs (i + 1)) (xs (i + 2)) hNo) (cwV 2 hts gL_law_X6_waiting rfl rfl rfl (by decide +kernel) ⟨Nat.le_of_ble_eq_true rfl, Nat.le_of_ble_eq_true rfl⟩) (PJ.preV hE hJ (rs_recv hE.1 hM (P_pre hPb)) ⟨P_pre hPb, (D_pre hDb).weaken (fun _ _ _ _ => trivial)⟩) rfl rfl hl.1 rfl (lv_room (Nat.le_of_ble_eq_true rfl)) dL_law_932 ⟨by show _ + 0 ≤ 601024; omega, by show _ + 0 ≤ 7293034; omega⟩) hS (fun q _ h => inW_D (D_pre hDb) q h) (fun q h => inW_D (D_pre hDb) q h) rfl (fun H1 locs1 hB9 hz9 hk1 hS => ?_)
  obtain ⟨MC', hM', hP1, hD1⟩ := hB9
  obtain ⟨hP3, hD3⟩ := jnF (w1 := MC') hPb hDb hk1 hP1 hD1
  generalize H1 = H at hP3 hS ⊢
  refine lv_istore (lv' := [(6, .int (nI 0)), (5, .int (nI 1)), (0, .ref b), (1, .ref fe), (2, .ref ob), (3, .ref ou), (4, .int (nI i))]) hx hb dL_law_935 hl (by decide) rfl (fun ls hl => ?_)
  refine lv_aload_n hx hb dL_law_937 rfl (lv_at hl 4 rfl) ?_
  refine pcall (st1 := [.int (nI 1)]) (va_runV (As := []) (rest := []) ⟨hx, hb, hml, hown, hts⟩ (MX_thrown l G hM') (cwV 0 hts gL_law_X6_thrown rfl rfl rfl (by decide +kernel) ⟨Nat.le_of_ble_eq_true rfl, Nat.le_of_ble_eq_true rfl⟩) (PC.preV hE (rs_recv hE.1 hM' (P_pre hP3)) (P_pre hP3)) rfl rfl hl.1 rfl (lv_room (Nat.le_of_ble_eq_true rfl)) dL_law_938 ⟨by show _ + 0 ≤ 601024; omega, by show _ + 0 ≤ 7293034; omega⟩) rfl ?_
  refine lv_iload hx hb dL_law_941 (lv_at hl 1 rfl) ?_
  refine icmp_eqN (tgt := 948) hx hb (by decide) (by decide) dL_law_943 (by decide) (fun _ => ?_) (fun h => absurd rfl h)
  refine lv_iload hx hb dL_law_948 (lv_at hl 1 rfl) ?_
  refine if_neN (tgt := 965) hx hb (by decide) dL_law_950 (by decide) (fun _ => ?_) (fun h => absurd h (by decide))
  refine lv_goto (tgt := 1491) hx hb dL_law_965 (by decide) ?_
  refine W.widen (k := cells + 1) (n := slots + 6) (by omega) (by omega) ?_
  have hP4 : va_P G.1 vwCl ([(ou, .inl (cJ, 1, .inr (.inl lo)))] ++ (WC ++ MC')) H := P_perm ((List.perm_append_comm).trans (by rw [List.append_assoc])) hP3
  have hD4 : va_D (AA s) ([(ou, .inl (cJ, 1, .inr (.inl lo)))] ++ (WC ++ MC')) := D_perm ((List.perm_append_comm).trans (by rw [List.append_assoc])) hD3
  exact kk _ _ _ _ _ _ _ _ _ _ _ _ _ _ _ ⟨hX, PR_mono (by omega) hR, hM', hP4, hD4, hS, lv_sub hl [2, 3, 4, 5, 6] rfl⟩
set_option maxHeartbeats 4000000 in
set_option maxRecDepth 100000 in
theorem seg_waiting_e2 {p : Program} {l : Launch} {e : Env} {s : State} {m : MethodId} {below : List Frame} {meth : Method} {c : Code} {b L : Nat} {xs : Nat → Int32} {G : eG} {cJ : ClassId} {Q : State → Prop} (hlt : l.stackTraces = false) (hL : LX p s m c b L xs G cJ) {fe ob ou B i : Nat} {f sf : Nat → Int32} {ff : Nat → Nat → Int32} {old sz len : Nat} {tx : Nat → Int32} {hsn thr : Int32} {lo : Nat → Int64} {WC MC : va_W} {H : Heap} {locs : List Loc} {ls : Array Slot} {cells slots : Nat} (hD : LD s G cJ b fe ob ou B f sf ff old sz len tx hsn thr lo WC MC H locs ls i) (hi : i + 4 ≤ L) (hLL : L ≤ 2048) (hB : B + 10000 < 700000000) (hc1 : cells + 1 ≤ 601024) (hs1 : slots + 6 ≤ 7293034) (h1 : nI 0 ≤ (xs (i + 1)) ∧ (xs (i + 1)) ≤ nI 1) (hNo : ¬ 0 ≤ (xs (i + 2)))  (kk : ∀ (f sf : Nat → Int32) (ff : Nat → Nat → Int32) (old sz len : Nat) (tx : Nat → Int32) (hsn thr : Int32) (lo : Nat → Int64) (WC MC : va_W) (H : Heap) (locs : List Loc) (ls : Array Slot), LD s G cJ b fe ob ou (B + 10000) f sf ff old sz len tx hsn thr lo WC MC H locs ls i → W p l e room_1 s m #[Value.ref b] below meth c H locs (cells + 1) (slots + 6) Q (F0 m 1491 ls [])) : W p l e room_1 s m #[Value.ref b] below meth c H locs cells slots Q (F0 m 900 ls []) := by
  obtain ⟨hx, hb, hml, hown, hts, hE, hJ0, hKJ, hXs, hbl⟩ := hL
  obtain ⟨hX, hR, hM, hP, hDD, hS, hl⟩ := hD
  have hbA : ¬ AA s b := Nat.not_le.mpr hbl
  have hJ : JX s H := hJ0.kept (fun a ha => hS.2.1 a ha (Nat.not_le.mpr ha))
  refine lv_aload_n hx hb dL_law_900 rfl (lv_at hl 1 rfl) ?_
  refine lv_aload_n hx hb dL_law_901 rfl (lv_at hl 0 rfl) ?_
  refine lv_iload hx hb dL_law_902 (lv_at hl 4 rfl) ?_
  refine lv_iconst (v := nI 1) hx hb dL_law_904 (by decide +kernel) ?_
  refine iaddN hx hb dL_law_905 ?_
  refine va_sld hx hb hXs hbl hbA hS (vp_in_nI (n := i + 1) (by omega) (by omega)) dL_law_906 ?_
  refine tS (st' := [.int (xs (i + 1)), .ref fe]) (by rw [nI_clamp (by omega)]) ?_
  refine lv_aload_n hx hb dL_law_907 rfl (lv_at hl 0 rfl) ?_
  refine lv_iload hx hb dL_law_908 (lv_at hl 4 rfl) ?_
  refine lv_iconst (v := nI 2) hx hb dL_law_910 (by decide +kernel) ?_
  refine iaddN hx hb dL_law_911 ?_
  refine va_sld hx hb hXs hbl hbA hS (vp_in_nI (n := i + 2) (by omega) (by omega)) dL_law_912 ?_
  refine tS (st' := [.int (xs (i + 2)), .int (xs (i + 1)), .ref fe]) (by rw [nI_clamp (by omega)]) ?_
  refine lv_aload_n hx hb dL_law_913 rfl (lv_at hl 3 rfl) ?_
  have hPw : va_P G.1 vwCl (WC ++ MC) H := P_pre (P_perm List.perm_append_comm hP)
  have hDw : va_D (AA s) (WC ++ MC) := D_pre (D_perm List.perm_append_comm hDD)
  refine mcall (st1 := [.int (nI 2)]) (vx_runSW (As := [.ref fe, .int (xs (i + 1)), .int (xs (i + 2)), .ref ou]) (rest := []) ⟨hx, hb, hml, hown, hts⟩ (CL_waiting_e2 l hlt G cJ hX hR (by omega) (xs (i + 1)) (xs (i + 2)) h1 hNo) (vx_cwSW 4 hts gL_law_L_waiting rfl rfl rfl (by decide +kernel) ⟨Nat.le_of_ble_eq_true rfl, Nat.le_of_ble_eq_true rfl⟩) (PL.preS hE hJ hKJ ⟨P_pre hPw, (D_pre hDw).weaken (fun _ _ _ _ => trivial)⟩) rfl rfl hl.1 rfl (lv_room (Nat.le_of_ble_eq_true rfl)) dL_law_914 ⟨by show cells + 1 ≤ 601024; omega, by show slots + 6 ≤ 7293034; omega⟩) hS (fun q _ h => (h : False).elim) (fun q h => (h : False).elim) rfl (fun H1 locs1 hB9 hz9 hk1 hS => ?_)
  have hP2 := P_kept hP (fun a ha => hk1 a ha (fun h => h))
  generalize H1 = H at hP2 hS ⊢
  replace hJ : JX s H := hJ0.kept (fun a ha => hS.2.1 a ha (Nat.not_le.mpr ha))
  have hPa : va_P G.1 vwCl (([(ou, .inl (cJ, 1, .inr (.inl lo)))] ++ WC) ++ MC) H := by rw [List.append_assoc]; exact hP2
  have hDa : va_D (AA s) (([(ou, .inl (cJ, 1, .inr (.inl lo)))] ++ WC) ++ MC) := by rw [List.append_assoc]; exact hDD
  have hPb : va_P G.1 vwCl (MC ++ ([(ou, .inl (cJ, 1, .inr (.inl lo)))] ++ WC)) H := P_perm List.perm_append_comm hPa
  have hDb : va_D (AA s) (MC ++ ([(ou, .inl (cJ, 1, .inr (.inl lo)))] ++ WC)) := D_perm List.perm_append_comm hDa
  refine lv_istore (lv' := [(5, .int (nI 2)), (0, .ref b), (1, .ref fe), (2, .ref ob), (3, .ref ou), (4, .int (nI i))]) hx hb dL_law_917 hl (by decide) rfl (fun ls hl => ?_)
  refine lv_aload_n hx hb dL_law_919 rfl (lv_at hl 3 rfl) ?_
  refine lv_aload_n hx hb dL_law_920 rfl (lv_at hl 1 rfl) ?_
  refine lv_iload hx hb dL_law_921 (lv_at hl 5 rfl) ?_
  refine lv_iconst (v := nI 1) hx hb dL_law_923 (by decide +kernel) ?_
  refine iaddN hx hb dL_law_924 ?_
  refine va_sld hx hb hXs hbl hbA hS (vp_in_nI (n := i + 1) (by omega) (by omega)) dL_law_925 ?_
  refine tS (st' := [.int (xs (i + 1)), .ref ob]) (by rw [nI_clamp (by omega)]) ?_
  refine lv_aload_n hx hb dL_law_926 rfl (lv_at hl 1 rfl) ?_
  refine lv_iload hx hb dL_law_927 (lv_at hl 5 rfl) ?_
  refine lv_iconst (v := nI 2) hx hb dL_law_929 (by decide +kernel) ?_
  refine iaddN hx hb dL_law_930 ?_
  refine va_sld hx hb hXs hbl hbA hS (vp_in_nI (n := i + 2) (by omega) (by omega)) dL_law_931 ?_
  refine tS (st' := [.int (xs (i + 2)), .int (xs (i + 1)), .ref ob]) (by rw [nI_clamp (by omega)]) ?_
  refine mcall (st1 := [.int (nI 0)]) (va_runV (As := [.int (xs (i + 1)), .int (xs (i + 2))]) (rest := []) ⟨hx, hb, hml, hown, hts⟩ (MX_waiting_e2 l G hM hR (by omega) (xs (i + 1)) (xs (i + 2)) h1 hNo) (cwV 2 hts gL_law_X6_waiting rfl rfl rfl (by decide +kernel) ⟨Nat.le_of_ble_eq_true rfl, Nat.le_of_ble_eq_true rfl⟩) (PJ.preV hE hJ (rs_recv hE.1 hM (P_pre hPb)) ⟨P_pre hPb, (D_pre hDb).weaken (fun _ _ _ _ => trivial)⟩) rfl rfl hl.1 rfl (lv_room (Nat.le_of_ble_eq_true rfl)) dL_law_932 ⟨by show _ + 0 ≤ 601024; omega, by show _ + 0 ≤ 7293034; omega⟩) hS (fun q _ h => inW_D (D_pre hDb) q h) (fun q h => inW_D (D_pre hDb) q h) rfl (fun H1 locs1 hB9 hz9 hk1 hS => ?_)
  obtain ⟨MC', hM', hP1, hD1⟩ := hB9
  obtain ⟨hP3, hD3⟩ := jnF (w1 := MC') hPb hDb hk1 hP1 hD1
  generalize H1 = H at hP3 hS ⊢
  refine lv_istore (lv' := [(6, .int (nI 0)), (5, .int (nI 2)), (0, .ref b), (1, .ref fe), (2, .ref ob), (3, .ref ou), (4, .int (nI i))]) hx hb dL_law_935 hl (by decide) rfl (fun ls hl => ?_)
  refine lv_aload_n hx hb dL_law_937 rfl (lv_at hl 4 rfl) ?_
  refine pcall (st1 := [.int (nI 2)]) (va_runV (As := []) (rest := []) ⟨hx, hb, hml, hown, hts⟩ (MX_thrown l G hM') (cwV 0 hts gL_law_X6_thrown rfl rfl rfl (by decide +kernel) ⟨Nat.le_of_ble_eq_true rfl, Nat.le_of_ble_eq_true rfl⟩) (PC.preV hE (rs_recv hE.1 hM' (P_pre hP3)) (P_pre hP3)) rfl rfl hl.1 rfl (lv_room (Nat.le_of_ble_eq_true rfl)) dL_law_938 ⟨by show _ + 0 ≤ 601024; omega, by show _ + 0 ≤ 7293034; omega⟩) rfl ?_
  refine lv_iload hx hb dL_law_941 (lv_at hl 1 rfl) ?_
  refine icmp_eqN (tgt := 948) hx hb (by decide) (by decide) dL_law_943 (by decide) (fun _ => ?_) (fun h => absurd rfl h)
  refine lv_iload hx hb dL_law_948 (lv_at hl 1 rfl) ?_
  refine if_neN (tgt := 965) hx hb (by decide) dL_law_950 (by decide) (fun _ => ?_) (fun h => absurd h (by decide))
  refine lv_goto (tgt := 1491) hx hb dL_law_965 (by decide) ?_
  refine W.widen (k := cells + 1) (n := slots + 6) (by omega) (by omega) ?_
  have hP4 : va_P G.1 vwCl ([(ou, .inl (cJ, 1, .inr (.inl lo)))] ++ (WC ++ MC')) H := P_perm ((List.perm_append_comm).trans (by rw [List.append_assoc])) hP3
  have hD4 : va_D (AA s) ([(ou, .inl (cJ, 1, .inr (.inl lo)))] ++ (WC ++ MC')) := D_perm ((List.perm_append_comm).trans (by rw [List.append_assoc])) hD3
  exact kk _ _ _ _ _ _ _ _ _ _ _ _ _ _ _ ⟨hX, PR_mono (by omega) hR, hM', hP4, hD4, hS, lv_sub hl [2, 3, 4, 5, 6] rfl⟩
set_option maxHeartbeats 4000000 in
set_option maxRecDepth 100000 in
theorem seg_deck_in {p : Program} {l : Launch} {e : Env} {s : State} {m : MethodId} {below : List Frame} {meth : Method} {c : Code} {b L : Nat} {xs : Nat → Int32} {G : eG} {cJ : ClassId} {Q : State → Prop} (hlt : l.stackTraces = false) (hL : LX p s m c b L xs G cJ) {fe ob ou B i : Nat} {f sf : Nat → Int32} {ff : Nat → Nat → Int32} {old sz len : Nat} {tx : Nat → Int32} {hsn thr : Int32} {lo : Nat → Int64} {WC MC : va_W} {H : Heap} {locs : List Loc} {ls : Array Slot} {cells slots : Nat} (hD : LD s G cJ b fe ob ou B f sf ff old sz len tx hsn thr lo WC MC H locs ls i) (hi : i + 4 ≤ L) (hLL : L ≤ 2048) (hB : B + 10000 < 700000000) (hc1 : cells + 1 ≤ 601024) (hs1 : slots + 6 ≤ 7293034) (b_ : Nat) (j : Nat) (hb2 : b_ < 2) (hj : j < 2147483648) (x : Nat) (hw2 : x < 2) (hjq : j < nn f (79 + 9 * b_)) (e1 : xs (i + 1) = nI b_) (e2 : xs (i + 2) = nI j) (e3 : xs (i + 3) = nI x) (kk : ∀ (f sf : Nat → Int32) (ff : Nat → Nat → Int32) (old sz len : Nat) (tx : Nat → Int32) (hsn thr : Int32) (lo : Nat → Int64) (WC MC : va_W) (H : Heap) (locs : List Loc) (ls : Array Slot), LD s G cJ b fe ob ou (B + 10000) f sf ff old sz len tx hsn thr lo WC MC H locs ls i → W p l e room_1 s m #[Value.ref b] below meth c H locs (cells + 1) (slots + 6) Q (F0 m 1491 ls [])) : W p l e room_1 s m #[Value.ref b] below meth c H locs cells slots Q (F0 m 968 ls []) := by
  obtain ⟨hx, hb, hml, hown, hts, hE, hJ0, hKJ, hXs, hbl⟩ := hL
  obtain ⟨hX, hR, hM, hP, hDD, hS, hl⟩ := hD
  have hbA : ¬ AA s b := Nat.not_le.mpr hbl
  have hJ : JX s H := hJ0.kept (fun a ha => hS.2.1 a ha (Nat.not_le.mpr ha))
  refine lv_aload_n hx hb dL_law_968 rfl (lv_at hl 1 rfl) ?_
  refine lv_aload_n hx hb dL_law_969 rfl (lv_at hl 0 rfl) ?_
  refine lv_iload hx hb dL_law_970 (lv_at hl 4 rfl) ?_
  refine lv_iconst (v := nI 1) hx hb dL_law_972 (by decide +kernel) ?_
  refine iaddN hx hb dL_law_973 ?_
  refine va_sld hx hb hXs hbl hbA hS (vp_in_nI (n := i + 1) (by omega) (by omega)) dL_law_974 ?_
  refine tS (st' := [.int (nI b_), .ref fe]) (by rw [nI_clamp (by omega), e1]) ?_
  refine lv_aload_n hx hb dL_law_975 rfl (lv_at hl 0 rfl) ?_
  refine lv_iload hx hb dL_law_976 (lv_at hl 4 rfl) ?_
  refine lv_iconst (v := nI 2) hx hb dL_law_978 (by decide +kernel) ?_
  refine iaddN hx hb dL_law_979 ?_
  refine va_sld hx hb hXs hbl hbA hS (vp_in_nI (n := i + 2) (by omega) (by omega)) dL_law_980 ?_
  refine tS (st' := [.int (nI j), .int (nI b_), .ref fe]) (by rw [nI_clamp (by omega), e2]) ?_
  refine lv_aload_n hx hb dL_law_981 rfl (lv_at hl 0 rfl) ?_
  refine lv_iload hx hb dL_law_982 (lv_at hl 4 rfl) ?_
  refine lv_iconst (v := nI 3) hx hb dL_law_984 (by decide +kernel) ?_
  refine iaddN hx hb dL_law_985 ?_
  refine va_sld hx hb hXs hbl hbA hS (vp_in_nI (n := i + 3) (by omega) (by omega)) dL_law_986 ?_
  refine tS (st' := [.int (nI x), .int (nI j), .int (nI b_), .ref fe]) (by rw [nI_clamp (by omega), e3]) ?_
  refine lv_aload_n hx hb dL_law_987 rfl (lv_at hl 3 rfl) ?_
  have hPa : va_P G.1 vwCl (([(ou, .inl (cJ, 1, .inr (.inl lo)))] ++ WC) ++ MC) H := by rw [List.append_assoc]; exact hP
  have hDa : va_D (AA s) (([(ou, .inl (cJ, 1, .inr (.inl lo)))] ++ WC) ++ MC) := by rw [List.append_assoc]; exact hDD
  refine mcall (st1 := [.int (nI 0)]) (vx_runSW (As := [.ref fe, .int (nI b_), .int (nI j), .int (nI x), .ref ou]) (rest := []) ⟨hx, hb, hml, hown, hts⟩ (CL_deck_in l G cJ hX hR (by omega) b_ j hb2 hj x hw2 hjq) (vx_cwSW 5 hts gL_law_L_deck rfl rfl rfl (by decide +kernel) ⟨Nat.le_of_ble_eq_true rfl, Nat.le_of_ble_eq_true rfl⟩) (PL.preS hE hJ hKJ ⟨P_pre hPa, (D_pre hDa).weaken (fun _ _ _ _ => trivial)⟩) rfl rfl hl.1 rfl (lv_room (Nat.le_of_ble_eq_true rfl)) dL_law_988 ⟨by show cells + 0 ≤ 601024; omega, by show slots + 0 ≤ 7293034; omega⟩) hS (fun q _ h => inW_D (D_pre hDa) q h) (fun q h => inW_D (D_pre hDa) q h) rfl (fun H1 locs1 hB9 hz9 hk1 hS => ?_)
  obtain ⟨WC', hX', hP1, hD1⟩ := hB9
  obtain ⟨hP2, hD2⟩ := jnF (w1 := [(ou, .inl (cJ, 1, .inr (.inl (vp_updL lo 0 (((f ((((79 + (9 * b_)) + 1) + (2 * j)) + x))).toInt64)))))] ++ WC') hPa hDa hk1 hP1 hD1
  generalize H1 = H at hP2 hS ⊢
  replace hJ : JX s H := hJ0.kept (fun a ha => hS.2.1 a ha (Nat.not_le.mpr ha))
  have hPb : va_P G.1 vwCl (MC ++ ([(ou, .inl (cJ, 1, .inr (.inl (vp_updL lo 0 (((f ((((79 + (9 * b_)) + 1) + (2 * j)) + x))).toInt64)))))] ++ WC')) H := P_perm List.perm_append_comm hP2
  have hDb : va_D (AA s) (MC ++ ([(ou, .inl (cJ, 1, .inr (.inl (vp_updL lo 0 (((f ((((79 + (9 * b_)) + 1) + (2 * j)) + x))).toInt64)))))] ++ WC')) := D_perm List.perm_append_comm hD2
  refine lv_istore (lv' := [(5, .int (nI 0)), (0, .ref b), (1, .ref fe), (2, .ref ob), (3, .ref ou), (4, .int (nI i))]) hx hb dL_law_991 hl (by decide) rfl (fun ls hl => ?_)
  refine lv_aload_n hx hb dL_law_993 rfl (lv_at hl 3 rfl) ?_
  refine lv_aload_n hx hb dL_law_994 rfl (lv_at hl 1 rfl) ?_
  refine lv_iload hx hb dL_law_995 (lv_at hl 5 rfl) ?_
  refine lv_iconst (v := nI 1) hx hb dL_law_997 (by decide +kernel) ?_
  refine iaddN hx hb dL_law_998 ?_
  refine va_sld hx hb hXs hbl hbA hS (vp_in_nI (n := i + 1) (by omega) (by omega)) dL_law_999 ?_
  refine tS (st' := [.int (nI b_), .ref ob]) (by rw [nI_clamp (by omega), e1]) ?_
  refine lv_aload_n hx hb dL_law_1000 rfl (lv_at hl 1 rfl) ?_
  refine lv_iload hx hb dL_law_1001 (lv_at hl 5 rfl) ?_
  refine lv_iconst (v := nI 2) hx hb dL_law_1003 (by decide +kernel) ?_
  refine iaddN hx hb dL_law_1004 ?_
  refine va_sld hx hb hXs hbl hbA hS (vp_in_nI (n := i + 2) (by omega) (by omega)) dL_law_1005 ?_
  refine tS (st' := [.int (nI j), .int (nI b_), .ref ob]) (by rw [nI_clamp (by omega), e2]) ?_
  refine lv_aload_n hx hb dL_law_1006 rfl (lv_at hl 1 rfl) ?_
  refine lv_iload hx hb dL_law_1007 (lv_at hl 5 rfl) ?_
  refine lv_iconst (v := nI 3) hx hb dL_law_1009 (by decide +kernel) ?_
  refine iaddN hx hb dL_law_1010 ?_
  refine va_sld hx hb hXs hbl hbA hS (vp_in_nI (n := i + 3) (by omega) (by omega)) dL_law_1011 ?_
  refine tS (st' := [.int (nI x), .int (nI j), .int (nI b_), .ref ob]) (by rw [nI_clamp (by omega), e3]) ?_
  refine mcall (st1 := [.int (f ((((79 + (9 * b_)) + 1) + (2 * j)) + x))]) (va_runV (As := [.int (nI b_), .int (nI j), .int (nI x)]) (rest := []) ⟨hx, hb, hml, hown, hts⟩ (MX_deck_in l G hM hR (by omega) b_ j hb2 hj x hw2 hjq) (cwV 3 hts gL_law_X6_deck rfl rfl rfl (by decide +kernel) ⟨Nat.le_of_ble_eq_true rfl, Nat.le_of_ble_eq_true rfl⟩) (PJ.preV hE hJ (rs_recv hE.1 hM (P_pre hPb)) ⟨P_pre hPb, (D_pre hDb).weaken (fun _ _ _ _ => trivial)⟩) rfl rfl hl.1 rfl (lv_room (Nat.le_of_ble_eq_true rfl)) dL_law_1012 ⟨by show _ + 0 ≤ 601024; omega, by show _ + 0 ≤ 7293034; omega⟩) hS (fun q _ h => inW_D (D_pre hDb) q h) (fun q h => inW_D (D_pre hDb) q h) rfl (fun H1 locs1 hB9 hz9 hk1 hS => ?_)
  obtain ⟨MC', hM', hP1, hD1⟩ := hB9
  obtain ⟨hP3, hD3⟩ := jnF (w1 := MC') hPb hDb hk1 hP1 hD1
  generalize H1 = H at hP3 hS ⊢
  refine lv_istore (lv' := [(6, .int (f ((((79 + (9 * b_)) + 1) + (2 * j)) + x))), (5, .int (nI 0)), (0, .ref b), (1, .ref fe), (2, .ref ob), (3, .ref ou), (4, .int (nI i))]) hx hb dL_law_1015 hl (by decide) rfl (fun ls hl => ?_)
  refine lv_aload_n hx hb dL_law_1017 rfl (lv_at hl 4 rfl) ?_
  refine pcall (st1 := [.int (nI 0)]) (va_runV (As := []) (rest := []) ⟨hx, hb, hml, hown, hts⟩ (MX_thrown l G hM') (cwV 0 hts gL_law_X6_thrown rfl rfl rfl (by decide +kernel) ⟨Nat.le_of_ble_eq_true rfl, Nat.le_of_ble_eq_true rfl⟩) (PC.preV hE (rs_recv hE.1 hM' (P_pre hP3)) (P_pre hP3)) rfl rfl hl.1 rfl (lv_room (Nat.le_of_ble_eq_true rfl)) dL_law_1018 ⟨by show _ + 0 ≤ 601024; omega, by show _ + 0 ≤ 7293034; omega⟩) rfl ?_
  refine lv_iload hx hb dL_law_1021 (lv_at hl 1 rfl) ?_
  refine icmp_eqN (tgt := 1028) hx hb (by decide) (by decide) dL_law_1023 (by decide) (fun _ => ?_) (fun h => absurd rfl h)
  refine lv_iload hx hb dL_law_1028 (lv_at hl 1 rfl) ?_
  refine if_neN (tgt := 1045) hx hb (by decide) dL_law_1030 (by decide) (fun h => absurd rfl h) (fun _ => ?_)
  refine lv_aload_n hx hb dL_law_1033 rfl (lv_at hl 5 rfl) ?_
  refine lv_iconst (v := nI 0) hx hb dL_law_1034 (by decide +kernel) ?_
  refine va_lald hx hb hKJ (P_pre (P_perm ((List.perm_append_comm).trans (by rw [List.append_assoc])) hP3)) 0 0 rfl rfl (vp_in_nI (n := 0) (N := 1) (by decide) (by decide)) dL_law_1035 ?_
  refine tS (st' := [.long (((f ((((79 + (9 * b_)) + 1) + (2 * j)) + x))).toInt64)]) (by rw [nI_clamp (by decide), pk_uLs]) ?_
  refine lv_iload hx hb dL_law_1036 (lv_at hl 0 rfl) ?_
  refine lv_i2l (v := ((f ((((79 + (9 * b_)) + 1) + (2 * j)) + x))).toInt64) hx hb dL_law_1038 rfl ?_
  refine lv_lcmpE hx hb dL_law_1039 ?_
  refine if_eqN (tgt := 1045) hx hb (by decide) dL_law_1040 (by decide) (fun _ => ?_) (fun h => absurd rfl h)
  refine lv_goto (tgt := 1491) hx hb dL_law_1045 (by decide) ?_
  refine W.widen (k := cells + 1) (n := slots + 6) (by omega) (by omega) ?_
  have hP4 : va_P G.1 vwCl ([(ou, .inl (cJ, 1, .inr (.inl (vp_updL lo 0 (((f ((((79 + (9 * b_)) + 1) + (2 * j)) + x))).toInt64)))))] ++ (WC' ++ MC')) H := P_perm ((List.perm_append_comm).trans (by rw [List.append_assoc])) hP3
  have hD4 : va_D (AA s) ([(ou, .inl (cJ, 1, .inr (.inl (vp_updL lo 0 (((f ((((79 + (9 * b_)) + 1) + (2 * j)) + x))).toInt64)))))] ++ (WC' ++ MC')) := D_perm ((List.perm_append_comm).trans (by rw [List.append_assoc])) hD3
  exact kk _ _ _ _ _ _ _ _ _ _ _ _ _ _ _ ⟨hX', PR_mono (by omega) hR, hM', hP4, hD4, hS, lv_sub hl [2, 3, 4, 5, 6] rfl⟩
set_option maxHeartbeats 4000000 in
set_option maxRecDepth 100000 in
theorem seg_deck_out {p : Program} {l : Launch} {e : Env} {s : State} {m : MethodId} {below : List Frame} {meth : Method} {c : Code} {b L : Nat} {xs : Nat → Int32} {G : eG} {cJ : ClassId} {Q : State → Prop} (hlt : l.stackTraces = false) (hL : LX p s m c b L xs G cJ) {fe ob ou B i : Nat} {f sf : Nat → Int32} {ff : Nat → Nat → Int32} {old sz len : Nat} {tx : Nat → Int32} {hsn thr : Int32} {lo : Nat → Int64} {WC MC : va_W} {H : Heap} {locs : List Loc} {ls : Array Slot} {cells slots : Nat} (hD : LD s G cJ b fe ob ou B f sf ff old sz len tx hsn thr lo WC MC H locs ls i) (hi : i + 4 ≤ L) (hLL : L ≤ 2048) (hB : B + 10000 < 700000000) (hc1 : cells + 1 ≤ 601024) (hs1 : slots + 6 ≤ 7293034) (b_ : Nat) (j : Nat) (hb2 : b_ < 2) (hj : j < 2147483648) (x : Nat) (hw2 : x < 2) (hjq : nn f (79 + 9 * b_) ≤ j) (e1 : xs (i + 1) = nI b_) (e2 : xs (i + 2) = nI j) (e3 : xs (i + 3) = nI x) (kk : ∀ (f sf : Nat → Int32) (ff : Nat → Nat → Int32) (old sz len : Nat) (tx : Nat → Int32) (hsn thr : Int32) (lo : Nat → Int64) (WC MC : va_W) (H : Heap) (locs : List Loc) (ls : Array Slot), LD s G cJ b fe ob ou (B + 10000) f sf ff old sz len tx hsn thr lo WC MC H locs ls i → W p l e room_1 s m #[Value.ref b] below meth c H locs (cells + 1) (slots + 6) Q (F0 m 1491 ls [])) : W p l e room_1 s m #[Value.ref b] below meth c H locs cells slots Q (F0 m 968 ls []) := by
  obtain ⟨hx, hb, hml, hown, hts, hE, hJ0, hKJ, hXs, hbl⟩ := hL
  obtain ⟨hX, hR, hM, hP, hDD, hS, hl⟩ := hD
  have hbA : ¬ AA s b := Nat.not_le.mpr hbl
  have hJ : JX s H := hJ0.kept (fun a ha => hS.2.1 a ha (Nat.not_le.mpr ha))
  refine lv_aload_n hx hb dL_law_968 rfl (lv_at hl 1 rfl) ?_
  refine lv_aload_n hx hb dL_law_969 rfl (lv_at hl 0 rfl) ?_
  refine lv_iload hx hb dL_law_970 (lv_at hl 4 rfl) ?_
  refine lv_iconst (v := nI 1) hx hb dL_law_972 (by decide +kernel) ?_
  refine iaddN hx hb dL_law_973 ?_
  refine va_sld hx hb hXs hbl hbA hS (vp_in_nI (n := i + 1) (by omega) (by omega)) dL_law_974 ?_
  refine tS (st' := [.int (nI b_), .ref fe]) (by rw [nI_clamp (by omega), e1]) ?_
  refine lv_aload_n hx hb dL_law_975 rfl (lv_at hl 0 rfl) ?_
  refine lv_iload hx hb dL_law_976 (lv_at hl 4 rfl) ?_
  refine lv_iconst (v := nI 2) hx hb dL_law_978 (by decide +kernel) ?_
  refine iaddN hx hb dL_law_979 ?_
  refine va_sld hx hb hXs hbl hbA hS (vp_in_nI (n := i + 2) (by omega) (by omega)) dL_law_980 ?_
  refine tS (st' := [.int (nI j), .int (nI b_), .ref fe]) (by rw [nI_clamp (by omega), e2]) ?_
  refine lv_aload_n hx hb dL_law_981 rfl (lv_at hl 0 rfl) ?_
  refine lv_iload hx hb dL_law_982 (lv_at hl 4 rfl) ?_
  refine lv_iconst (v := nI 3) hx hb dL_law_984 (by decide +kernel) ?_
  refine iaddN hx hb dL_law_985 ?_
  refine va_sld hx hb hXs hbl hbA hS (vp_in_nI (n := i + 3) (by omega) (by omega)) dL_law_986 ?_
  refine tS (st' := [.int (nI x), .int (nI j), .int (nI b_), .ref fe]) (by rw [nI_clamp (by omega), e3]) ?_
  refine lv_aload_n hx hb dL_law_987 rfl (lv_at hl 3 rfl) ?_
  have hPa : va_P G.1 vwCl (([(ou, .inl (cJ, 1, .inr (.inl lo)))] ++ WC) ++ MC) H := by rw [List.append_assoc]; exact hP
  have hDa : va_D (AA s) (([(ou, .inl (cJ, 1, .inr (.inl lo)))] ++ WC) ++ MC) := by rw [List.append_assoc]; exact hDD
  refine mcall (st1 := [.int (nI 0)]) (vx_runSW (As := [.ref fe, .int (nI b_), .int (nI j), .int (nI x), .ref ou]) (rest := []) ⟨hx, hb, hml, hown, hts⟩ (CL_deck_out l G cJ hX hR (by omega) b_ j hb2 hj x hw2 hjq) (vx_cwSW 5 hts gL_law_L_deck rfl rfl rfl (by decide +kernel) ⟨Nat.le_of_ble_eq_true rfl, Nat.le_of_ble_eq_true rfl⟩) (PL.preS hE hJ hKJ ⟨P_pre hPa, (D_pre hDa).weaken (fun _ _ _ _ => trivial)⟩) rfl rfl hl.1 rfl (lv_room (Nat.le_of_ble_eq_true rfl)) dL_law_988 ⟨by show cells + 0 ≤ 601024; omega, by show slots + 0 ≤ 7293034; omega⟩) hS (fun q _ h => inW_D (D_pre hDa) q h) (fun q h => inW_D (D_pre hDa) q h) rfl (fun H1 locs1 hB9 hz9 hk1 hS => ?_)
  obtain ⟨WC', hX', hP1, hD1⟩ := hB9
  obtain ⟨hP2, hD2⟩ := jnF (w1 := [(ou, .inl (cJ, 1, .inr (.inl (vp_updL lo 0 ((((-1))).toInt64)))))] ++ WC') hPa hDa hk1 hP1 hD1
  generalize H1 = H at hP2 hS ⊢
  replace hJ : JX s H := hJ0.kept (fun a ha => hS.2.1 a ha (Nat.not_le.mpr ha))
  have hPb : va_P G.1 vwCl (MC ++ ([(ou, .inl (cJ, 1, .inr (.inl (vp_updL lo 0 ((((-1))).toInt64)))))] ++ WC')) H := P_perm List.perm_append_comm hP2
  have hDb : va_D (AA s) (MC ++ ([(ou, .inl (cJ, 1, .inr (.inl (vp_updL lo 0 ((((-1))).toInt64)))))] ++ WC')) := D_perm List.perm_append_comm hD2
  refine lv_istore (lv' := [(5, .int (nI 0)), (0, .ref b), (1, .ref fe), (2, .ref ob), (3, .ref ou), (4, .int (nI i))]) hx hb dL_law_991 hl (by decide) rfl (fun ls hl => ?_)
  refine lv_aload_n hx hb dL_law_993 rfl (lv_at hl 3 rfl) ?_
  refine lv_aload_n hx hb dL_law_994 rfl (lv_at hl 1 rfl) ?_
  refine lv_iload hx hb dL_law_995 (lv_at hl 5 rfl) ?_
  refine lv_iconst (v := nI 1) hx hb dL_law_997 (by decide +kernel) ?_
  refine iaddN hx hb dL_law_998 ?_
  refine va_sld hx hb hXs hbl hbA hS (vp_in_nI (n := i + 1) (by omega) (by omega)) dL_law_999 ?_
  refine tS (st' := [.int (nI b_), .ref ob]) (by rw [nI_clamp (by omega), e1]) ?_
  refine lv_aload_n hx hb dL_law_1000 rfl (lv_at hl 1 rfl) ?_
  refine lv_iload hx hb dL_law_1001 (lv_at hl 5 rfl) ?_
  refine lv_iconst (v := nI 2) hx hb dL_law_1003 (by decide +kernel) ?_
  refine iaddN hx hb dL_law_1004 ?_
  refine va_sld hx hb hXs hbl hbA hS (vp_in_nI (n := i + 2) (by omega) (by omega)) dL_law_1005 ?_
  refine tS (st' := [.int (nI j), .int (nI b_), .ref ob]) (by rw [nI_clamp (by omega), e2]) ?_
  refine lv_aload_n hx hb dL_law_1006 rfl (lv_at hl 1 rfl) ?_
  refine lv_iload hx hb dL_law_1007 (lv_at hl 5 rfl) ?_
  refine lv_iconst (v := nI 3) hx hb dL_law_1009 (by decide +kernel) ?_
  refine iaddN hx hb dL_law_1010 ?_
  refine va_sld hx hb hXs hbl hbA hS (vp_in_nI (n := i + 3) (by omega) (by omega)) dL_law_1011 ?_
  refine tS (st' := [.int (nI x), .int (nI j), .int (nI b_), .ref ob]) (by rw [nI_clamp (by omega), e3]) ?_
  refine mcall (st1 := [.int (-1)]) (va_runV (As := [.int (nI b_), .int (nI j), .int (nI x)]) (rest := []) ⟨hx, hb, hml, hown, hts⟩ (MX_deck_out l G hM hR (by omega) b_ j hb2 hj x hw2 hjq) (cwV 3 hts gL_law_X6_deck rfl rfl rfl (by decide +kernel) ⟨Nat.le_of_ble_eq_true rfl, Nat.le_of_ble_eq_true rfl⟩) (PJ.preV hE hJ (rs_recv hE.1 hM (P_pre hPb)) ⟨P_pre hPb, (D_pre hDb).weaken (fun _ _ _ _ => trivial)⟩) rfl rfl hl.1 rfl (lv_room (Nat.le_of_ble_eq_true rfl)) dL_law_1012 ⟨by show _ + 0 ≤ 601024; omega, by show _ + 0 ≤ 7293034; omega⟩) hS (fun q _ h => inW_D (D_pre hDb) q h) (fun q h => inW_D (D_pre hDb) q h) rfl (fun H1 locs1 hB9 hz9 hk1 hS => ?_)
  obtain ⟨MC', hM', hP1, hD1⟩ := hB9
  obtain ⟨hP3, hD3⟩ := jnF (w1 := MC') hPb hDb hk1 hP1 hD1
  generalize H1 = H at hP3 hS ⊢
  refine lv_istore (lv' := [(6, .int (-1)), (5, .int (nI 0)), (0, .ref b), (1, .ref fe), (2, .ref ob), (3, .ref ou), (4, .int (nI i))]) hx hb dL_law_1015 hl (by decide) rfl (fun ls hl => ?_)
  refine lv_aload_n hx hb dL_law_1017 rfl (lv_at hl 4 rfl) ?_
  refine pcall (st1 := [.int (nI 0)]) (va_runV (As := []) (rest := []) ⟨hx, hb, hml, hown, hts⟩ (MX_thrown l G hM') (cwV 0 hts gL_law_X6_thrown rfl rfl rfl (by decide +kernel) ⟨Nat.le_of_ble_eq_true rfl, Nat.le_of_ble_eq_true rfl⟩) (PC.preV hE (rs_recv hE.1 hM' (P_pre hP3)) (P_pre hP3)) rfl rfl hl.1 rfl (lv_room (Nat.le_of_ble_eq_true rfl)) dL_law_1018 ⟨by show _ + 0 ≤ 601024; omega, by show _ + 0 ≤ 7293034; omega⟩) rfl ?_
  refine lv_iload hx hb dL_law_1021 (lv_at hl 1 rfl) ?_
  refine icmp_eqN (tgt := 1028) hx hb (by decide) (by decide) dL_law_1023 (by decide) (fun _ => ?_) (fun h => absurd rfl h)
  refine lv_iload hx hb dL_law_1028 (lv_at hl 1 rfl) ?_
  refine if_neN (tgt := 1045) hx hb (by decide) dL_law_1030 (by decide) (fun h => absurd rfl h) (fun _ => ?_)
  refine lv_aload_n hx hb dL_law_1033 rfl (lv_at hl 5 rfl) ?_
  refine lv_iconst (v := nI 0) hx hb dL_law_1034 (by decide +kernel) ?_
  refine va_lald hx hb hKJ (P_pre (P_perm ((List.perm_append_comm).trans (by rw [List.append_assoc])) hP3)) 0 0 rfl rfl (vp_in_nI (n := 0) (N := 1) (by decide) (by decide)) dL_law_1035 ?_
  refine tS (st' := [.long ((((-1))).toInt64)]) (by rw [nI_clamp (by decide), pk_uLs]) ?_
  refine lv_iload hx hb dL_law_1036 (lv_at hl 0 rfl) ?_
  refine lv_i2l (v := (((-1))).toInt64) hx hb dL_law_1038 rfl ?_
  refine lv_lcmpE hx hb dL_law_1039 ?_
  refine if_eqN (tgt := 1045) hx hb (by decide) dL_law_1040 (by decide) (fun _ => ?_) (fun h => absurd rfl h)
  refine lv_goto (tgt := 1491) hx hb dL_law_1045 (by decide) ?_
  refine W.widen (k := cells + 1) (n := slots + 6) (by omega) (by omega) ?_
  have hP4 : va_P G.1 vwCl ([(ou, .inl (cJ, 1, .inr (.inl (vp_updL lo 0 ((((-1))).toInt64)))))] ++ (WC' ++ MC')) H := P_perm ((List.perm_append_comm).trans (by rw [List.append_assoc])) hP3
  have hD4 : va_D (AA s) ([(ou, .inl (cJ, 1, .inr (.inl (vp_updL lo 0 ((((-1))).toInt64)))))] ++ (WC' ++ MC')) := D_perm ((List.perm_append_comm).trans (by rw [List.append_assoc])) hD3
  exact kk _ _ _ _ _ _ _ _ _ _ _ _ _ _ _ ⟨hX', PR_mono (by omega) hR, hM', hP4, hD4, hS, lv_sub hl [2, 3, 4, 5, 6] rfl⟩
set_option maxHeartbeats 4000000 in
set_option maxRecDepth 100000 in
theorem seg_deck_e1 {p : Program} {l : Launch} {e : Env} {s : State} {m : MethodId} {below : List Frame} {meth : Method} {c : Code} {b L : Nat} {xs : Nat → Int32} {G : eG} {cJ : ClassId} {Q : State → Prop} (hlt : l.stackTraces = false) (hL : LX p s m c b L xs G cJ) {fe ob ou B i : Nat} {f sf : Nat → Int32} {ff : Nat → Nat → Int32} {old sz len : Nat} {tx : Nat → Int32} {hsn thr : Int32} {lo : Nat → Int64} {WC MC : va_W} {H : Heap} {locs : List Loc} {ls : Array Slot} {cells slots : Nat} (hD : LD s G cJ b fe ob ou B f sf ff old sz len tx hsn thr lo WC MC H locs ls i) (hi : i + 4 ≤ L) (hLL : L ≤ 2048) (hB : B + 10000 < 700000000) (hc1 : cells + 1 ≤ 601024) (hs1 : slots + 6 ≤ 7293034) (hNo : ¬ (nI 0 ≤ (xs (i + 1)) ∧ (xs (i + 1)) ≤ nI 1))  (kk : ∀ (f sf : Nat → Int32) (ff : Nat → Nat → Int32) (old sz len : Nat) (tx : Nat → Int32) (hsn thr : Int32) (lo : Nat → Int64) (WC MC : va_W) (H : Heap) (locs : List Loc) (ls : Array Slot), LD s G cJ b fe ob ou (B + 10000) f sf ff old sz len tx hsn thr lo WC MC H locs ls i → W p l e room_1 s m #[Value.ref b] below meth c H locs (cells + 1) (slots + 6) Q (F0 m 1491 ls [])) : W p l e room_1 s m #[Value.ref b] below meth c H locs cells slots Q (F0 m 968 ls []) := by
  obtain ⟨hx, hb, hml, hown, hts, hE, hJ0, hKJ, hXs, hbl⟩ := hL
  obtain ⟨hX, hR, hM, hP, hDD, hS, hl⟩ := hD
  have hbA : ¬ AA s b := Nat.not_le.mpr hbl
  have hJ : JX s H := hJ0.kept (fun a ha => hS.2.1 a ha (Nat.not_le.mpr ha))
  refine lv_aload_n hx hb dL_law_968 rfl (lv_at hl 1 rfl) ?_
  refine lv_aload_n hx hb dL_law_969 rfl (lv_at hl 0 rfl) ?_
  refine lv_iload hx hb dL_law_970 (lv_at hl 4 rfl) ?_
  refine lv_iconst (v := nI 1) hx hb dL_law_972 (by decide +kernel) ?_
  refine iaddN hx hb dL_law_973 ?_
  refine va_sld hx hb hXs hbl hbA hS (vp_in_nI (n := i + 1) (by omega) (by omega)) dL_law_974 ?_
  refine tS (st' := [.int (xs (i + 1)), .ref fe]) (by rw [nI_clamp (by omega)]) ?_
  refine lv_aload_n hx hb dL_law_975 rfl (lv_at hl 0 rfl) ?_
  refine lv_iload hx hb dL_law_976 (lv_at hl 4 rfl) ?_
  refine lv_iconst (v := nI 2) hx hb dL_law_978 (by decide +kernel) ?_
  refine iaddN hx hb dL_law_979 ?_
  refine va_sld hx hb hXs hbl hbA hS (vp_in_nI (n := i + 2) (by omega) (by omega)) dL_law_980 ?_
  refine tS (st' := [.int (xs (i + 2)), .int (xs (i + 1)), .ref fe]) (by rw [nI_clamp (by omega)]) ?_
  refine lv_aload_n hx hb dL_law_981 rfl (lv_at hl 0 rfl) ?_
  refine lv_iload hx hb dL_law_982 (lv_at hl 4 rfl) ?_
  refine lv_iconst (v := nI 3) hx hb dL_law_984 (by decide +kernel) ?_
  refine iaddN hx hb dL_law_985 ?_
  refine va_sld hx hb hXs hbl hbA hS (vp_in_nI (n := i + 3) (by omega) (by omega)) dL_law_986 ?_
  refine tS (st' := [.int (xs (i + 3)), .int (xs (i + 2)), .int (xs (i + 1)), .ref fe]) (by rw [nI_clamp (by omega)]) ?_
  refine lv_aload_n hx hb dL_law_987 rfl (lv_at hl 3 rfl) ?_
  have hPw : va_P G.1 vwCl (WC ++ MC) H := P_pre (P_perm List.perm_append_comm hP)
  have hDw : va_D (AA s) (WC ++ MC) := D_pre (D_perm List.perm_append_comm hDD)
  refine mcall (st1 := [.int (nI 1)]) (vx_runSW (As := [.ref fe, .int (xs (i + 1)), .int (xs (i + 2)), .int (xs (i + 3)), .ref ou]) (rest := []) ⟨hx, hb, hml, hown, hts⟩ (CL_deck_e1 l hlt G cJ hX hR (by omega) (xs (i + 1)) (xs (i + 2)) (xs (i + 3)) hNo) (vx_cwSW 5 hts gL_law_L_deck rfl rfl rfl (by decide +kernel) ⟨Nat.le_of_ble_eq_true rfl, Nat.le_of_ble_eq_true rfl⟩) (PL.preS hE hJ hKJ ⟨P_pre hPw, (D_pre hDw).weaken (fun _ _ _ _ => trivial)⟩) rfl rfl hl.1 rfl (lv_room (Nat.le_of_ble_eq_true rfl)) dL_law_988 ⟨by show cells + 1 ≤ 601024; omega, by show slots + 6 ≤ 7293034; omega⟩) hS (fun q _ h => (h : False).elim) (fun q h => (h : False).elim) rfl (fun H1 locs1 hB9 hz9 hk1 hS => ?_)
  have hP2 := P_kept hP (fun a ha => hk1 a ha (fun h => h))
  generalize H1 = H at hP2 hS ⊢
  replace hJ : JX s H := hJ0.kept (fun a ha => hS.2.1 a ha (Nat.not_le.mpr ha))
  have hPa : va_P G.1 vwCl (([(ou, .inl (cJ, 1, .inr (.inl lo)))] ++ WC) ++ MC) H := by rw [List.append_assoc]; exact hP2
  have hDa : va_D (AA s) (([(ou, .inl (cJ, 1, .inr (.inl lo)))] ++ WC) ++ MC) := by rw [List.append_assoc]; exact hDD
  have hPb : va_P G.1 vwCl (MC ++ ([(ou, .inl (cJ, 1, .inr (.inl lo)))] ++ WC)) H := P_perm List.perm_append_comm hPa
  have hDb : va_D (AA s) (MC ++ ([(ou, .inl (cJ, 1, .inr (.inl lo)))] ++ WC)) := D_perm List.perm_append_comm hDa
  refine lv_istore (lv' := [(5, .int (nI 1)), (0, .ref b), (1, .ref fe), (2, .ref ob), (3, .ref ou), (4, .int (nI i))]) hx hb dL_law_991 hl (by decide) rfl (fun ls hl => ?_)
  refine lv_aload_n hx hb dL_law_993 rfl (lv_at hl 3 rfl) ?_
  refine lv_aload_n hx hb dL_law_994 rfl (lv_at hl 1 rfl) ?_
  refine lv_iload hx hb dL_law_995 (lv_at hl 5 rfl) ?_
  refine lv_iconst (v := nI 1) hx hb dL_law_997 (by decide +kernel) ?_
  refine iaddN hx hb dL_law_998 ?_
  refine va_sld hx hb hXs hbl hbA hS (vp_in_nI (n := i + 1) (by omega) (by omega)) dL_law_999 ?_
  refine tS (st' := [.int (xs (i + 1)), .ref ob]) (by rw [nI_clamp (by omega)]) ?_
  refine lv_aload_n hx hb dL_law_1000 rfl (lv_at hl 1 rfl) ?_
  refine lv_iload hx hb dL_law_1001 (lv_at hl 5 rfl) ?_
  refine lv_iconst (v := nI 2) hx hb dL_law_1003 (by decide +kernel) ?_
  refine iaddN hx hb dL_law_1004 ?_
  refine va_sld hx hb hXs hbl hbA hS (vp_in_nI (n := i + 2) (by omega) (by omega)) dL_law_1005 ?_
  refine tS (st' := [.int (xs (i + 2)), .int (xs (i + 1)), .ref ob]) (by rw [nI_clamp (by omega)]) ?_
  refine lv_aload_n hx hb dL_law_1006 rfl (lv_at hl 1 rfl) ?_
  refine lv_iload hx hb dL_law_1007 (lv_at hl 5 rfl) ?_
  refine lv_iconst (v := nI 3) hx hb dL_law_1009 (by decide +kernel) ?_
  refine iaddN hx hb dL_law_1010 ?_
  refine va_sld hx hb hXs hbl hbA hS (vp_in_nI (n := i + 3) (by omega) (by omega)) dL_law_1011 ?_
  refine tS (st' := [.int (xs (i + 3)), .int (xs (i + 2)), .int (xs (i + 1)), .ref ob]) (by rw [nI_clamp (by omega)]) ?_
  refine mcall (st1 := [.int (nI 0)]) (va_runV (As := [.int (xs (i + 1)), .int (xs (i + 2)), .int (xs (i + 3))]) (rest := []) ⟨hx, hb, hml, hown, hts⟩ (MX_deck_e1 l G hM hR (by omega) (xs (i + 1)) (xs (i + 2)) (xs (i + 3)) hNo) (cwV 3 hts gL_law_X6_deck rfl rfl rfl (by decide +kernel) ⟨Nat.le_of_ble_eq_true rfl, Nat.le_of_ble_eq_true rfl⟩) (PJ.preV hE hJ (rs_recv hE.1 hM (P_pre hPb)) ⟨P_pre hPb, (D_pre hDb).weaken (fun _ _ _ _ => trivial)⟩) rfl rfl hl.1 rfl (lv_room (Nat.le_of_ble_eq_true rfl)) dL_law_1012 ⟨by show _ + 0 ≤ 601024; omega, by show _ + 0 ≤ 7293034; omega⟩) hS (fun q _ h => inW_D (D_pre hDb) q h) (fun q h => inW_D (D_pre hDb) q h) rfl (fun H1 locs1 hB9 hz9 hk1 hS => ?_)
  obtain ⟨MC', hM', hP1, hD1⟩ := hB9
  obtain ⟨hP3, hD3⟩ := jnF (w1 := MC') hPb hDb hk1 hP1 hD1
  generalize H1 = H at hP3 hS ⊢
  refine lv_istore (lv' := [(6, .int (nI 0)), (5, .int (nI 1)), (0, .ref b), (1, .ref fe), (2, .ref ob), (3, .ref ou), (4, .int (nI i))]) hx hb dL_law_1015 hl (by decide) rfl (fun ls hl => ?_)
  refine lv_aload_n hx hb dL_law_1017 rfl (lv_at hl 4 rfl) ?_
  refine pcall (st1 := [.int (nI 1)]) (va_runV (As := []) (rest := []) ⟨hx, hb, hml, hown, hts⟩ (MX_thrown l G hM') (cwV 0 hts gL_law_X6_thrown rfl rfl rfl (by decide +kernel) ⟨Nat.le_of_ble_eq_true rfl, Nat.le_of_ble_eq_true rfl⟩) (PC.preV hE (rs_recv hE.1 hM' (P_pre hP3)) (P_pre hP3)) rfl rfl hl.1 rfl (lv_room (Nat.le_of_ble_eq_true rfl)) dL_law_1018 ⟨by show _ + 0 ≤ 601024; omega, by show _ + 0 ≤ 7293034; omega⟩) rfl ?_
  refine lv_iload hx hb dL_law_1021 (lv_at hl 1 rfl) ?_
  refine icmp_eqN (tgt := 1028) hx hb (by decide) (by decide) dL_law_1023 (by decide) (fun _ => ?_) (fun h => absurd rfl h)
  refine lv_iload hx hb dL_law_1028 (lv_at hl 1 rfl) ?_
  refine if_neN (tgt := 1045) hx hb (by decide) dL_law_1030 (by decide) (fun _ => ?_) (fun h => absurd h (by decide))
  refine lv_goto (tgt := 1491) hx hb dL_law_1045 (by decide) ?_
  refine W.widen (k := cells + 1) (n := slots + 6) (by omega) (by omega) ?_
  have hP4 : va_P G.1 vwCl ([(ou, .inl (cJ, 1, .inr (.inl lo)))] ++ (WC ++ MC')) H := P_perm ((List.perm_append_comm).trans (by rw [List.append_assoc])) hP3
  have hD4 : va_D (AA s) ([(ou, .inl (cJ, 1, .inr (.inl lo)))] ++ (WC ++ MC')) := D_perm ((List.perm_append_comm).trans (by rw [List.append_assoc])) hD3
  exact kk _ _ _ _ _ _ _ _ _ _ _ _ _ _ _ ⟨hX, PR_mono (by omega) hR, hM', hP4, hD4, hS, lv_sub hl [2, 3, 4, 5, 6] rfl⟩
set_option maxHeartbeats 4000000 in
set_option maxRecDepth 100000 in
theorem seg_deck_e2a {p : Program} {l : Launch} {e : Env} {s : State} {m : MethodId} {below : List Frame} {meth : Method} {c : Code} {b L : Nat} {xs : Nat → Int32} {G : eG} {cJ : ClassId} {Q : State → Prop} (hlt : l.stackTraces = false) (hL : LX p s m c b L xs G cJ) {fe ob ou B i : Nat} {f sf : Nat → Int32} {ff : Nat → Nat → Int32} {old sz len : Nat} {tx : Nat → Int32} {hsn thr : Int32} {lo : Nat → Int64} {WC MC : va_W} {H : Heap} {locs : List Loc} {ls : Array Slot} {cells slots : Nat} (hD : LD s G cJ b fe ob ou B f sf ff old sz len tx hsn thr lo WC MC H locs ls i) (hi : i + 4 ≤ L) (hLL : L ≤ 2048) (hB : B + 10000 < 700000000) (hc1 : cells + 1 ≤ 601024) (hs1 : slots + 6 ≤ 7293034) (h1 : nI 0 ≤ (xs (i + 1)) ∧ (xs (i + 1)) ≤ nI 1) (hNo : (xs (i + 2)) < 0)  (kk : ∀ (f sf : Nat → Int32) (ff : Nat → Nat → Int32) (old sz len : Nat) (tx : Nat → Int32) (hsn thr : Int32) (lo : Nat → Int64) (WC MC : va_W) (H : Heap) (locs : List Loc) (ls : Array Slot), LD s G cJ b fe ob ou (B + 10000) f sf ff old sz len tx hsn thr lo WC MC H locs ls i → W p l e room_1 s m #[Value.ref b] below meth c H locs (cells + 1) (slots + 6) Q (F0 m 1491 ls [])) : W p l e room_1 s m #[Value.ref b] below meth c H locs cells slots Q (F0 m 968 ls []) := by
  obtain ⟨hx, hb, hml, hown, hts, hE, hJ0, hKJ, hXs, hbl⟩ := hL
  obtain ⟨hX, hR, hM, hP, hDD, hS, hl⟩ := hD
  have hbA : ¬ AA s b := Nat.not_le.mpr hbl
  have hJ : JX s H := hJ0.kept (fun a ha => hS.2.1 a ha (Nat.not_le.mpr ha))
  refine lv_aload_n hx hb dL_law_968 rfl (lv_at hl 1 rfl) ?_
  refine lv_aload_n hx hb dL_law_969 rfl (lv_at hl 0 rfl) ?_
  refine lv_iload hx hb dL_law_970 (lv_at hl 4 rfl) ?_
  refine lv_iconst (v := nI 1) hx hb dL_law_972 (by decide +kernel) ?_
  refine iaddN hx hb dL_law_973 ?_
  refine va_sld hx hb hXs hbl hbA hS (vp_in_nI (n := i + 1) (by omega) (by omega)) dL_law_974 ?_
  refine tS (st' := [.int (xs (i + 1)), .ref fe]) (by rw [nI_clamp (by omega)]) ?_
  refine lv_aload_n hx hb dL_law_975 rfl (lv_at hl 0 rfl) ?_
  refine lv_iload hx hb dL_law_976 (lv_at hl 4 rfl) ?_
  refine lv_iconst (v := nI 2) hx hb dL_law_978 (by decide +kernel) ?_
  refine iaddN hx hb dL_law_979 ?_
  refine va_sld hx hb hXs hbl hbA hS (vp_in_nI (n := i + 2) (by omega) (by omega)) dL_law_980 ?_
  refine tS (st' := [.int (xs (i + 2)), .int (xs (i + 1)), .ref fe]) (by rw [nI_clamp (by omega)]) ?_
  refine lv_aload_n hx hb dL_law_981 rfl (lv_at hl 0 rfl) ?_
  refine lv_iload hx hb dL_law_982 (lv_at hl 4 rfl) ?_
  refine lv_iconst (v := nI 3) hx hb dL_law_984 (by decide +kernel) ?_
  refine iaddN hx hb dL_law_985 ?_
  refine va_sld hx hb hXs hbl hbA hS (vp_in_nI (n := i + 3) (by omega) (by omega)) dL_law_986 ?_
  refine tS (st' := [.int (xs (i + 3)), .int (xs (i + 2)), .int (xs (i + 1)), .ref fe]) (by rw [nI_clamp (by omega)]) ?_
  refine lv_aload_n hx hb dL_law_987 rfl (lv_at hl 3 rfl) ?_
  have hPw : va_P G.1 vwCl (WC ++ MC) H := P_pre (P_perm List.perm_append_comm hP)
  have hDw : va_D (AA s) (WC ++ MC) := D_pre (D_perm List.perm_append_comm hDD)
  refine mcall (st1 := [.int (nI 2)]) (vx_runSW (As := [.ref fe, .int (xs (i + 1)), .int (xs (i + 2)), .int (xs (i + 3)), .ref ou]) (rest := []) ⟨hx, hb, hml, hown, hts⟩ (CL_deck_e2a l hlt G cJ hX hR (by omega) (xs (i + 1)) (xs (i + 2)) (xs (i + 3)) h1 hNo) (vx_cwSW 5 hts gL_law_L_deck rfl rfl rfl (by decide +kernel) ⟨Nat.le_of_ble_eq_true rfl, Nat.le_of_ble_eq_true rfl⟩) (PL.preS hE hJ hKJ ⟨P_pre hPw, (D_pre hDw).weaken (fun _ _ _ _ => trivial)⟩) rfl rfl hl.1 rfl (lv_room (Nat.le_of_ble_eq_true rfl)) dL_law_988 ⟨by show cells + 1 ≤ 601024; omega, by show slots + 6 ≤ 7293034; omega⟩) hS (fun q _ h => (h : False).elim) (fun q h => (h : False).elim) rfl (fun H1 locs1 hB9 hz9 hk1 hS => ?_)
  have hP2 := P_kept hP (fun a ha => hk1 a ha (fun h => h))
  generalize H1 = H at hP2 hS ⊢
  replace hJ : JX s H := hJ0.kept (fun a ha => hS.2.1 a ha (Nat.not_le.mpr ha))
  have hPa : va_P G.1 vwCl (([(ou, .inl (cJ, 1, .inr (.inl lo)))] ++ WC) ++ MC) H := by rw [List.append_assoc]; exact hP2
  have hDa : va_D (AA s) (([(ou, .inl (cJ, 1, .inr (.inl lo)))] ++ WC) ++ MC) := by rw [List.append_assoc]; exact hDD
  have hPb : va_P G.1 vwCl (MC ++ ([(ou, .inl (cJ, 1, .inr (.inl lo)))] ++ WC)) H := P_perm List.perm_append_comm hPa
  have hDb : va_D (AA s) (MC ++ ([(ou, .inl (cJ, 1, .inr (.inl lo)))] ++ WC)) := D_perm List.perm_append_comm hDa
  refine lv_istore (lv' := [(5, .int (nI 2)), (0, .ref b), (1, .ref fe), (2, .ref ob), (3, .ref ou), (4, .int (nI i))]) hx hb dL_law_991 hl (by decide) rfl (fun ls hl => ?_)
  refine lv_aload_n hx hb dL_law_993 rfl (lv_at hl 3 rfl) ?_
  refine lv_aload_n hx hb dL_law_994 rfl (lv_at hl 1 rfl) ?_
  refine lv_iload hx hb dL_law_995 (lv_at hl 5 rfl) ?_
  refine lv_iconst (v := nI 1) hx hb dL_law_997 (by decide +kernel) ?_
  refine iaddN hx hb dL_law_998 ?_
  refine va_sld hx hb hXs hbl hbA hS (vp_in_nI (n := i + 1) (by omega) (by omega)) dL_law_999 ?_
  refine tS (st' := [.int (xs (i + 1)), .ref ob]) (by rw [nI_clamp (by omega)]) ?_
  refine lv_aload_n hx hb dL_law_1000 rfl (lv_at hl 1 rfl) ?_
  refine lv_iload hx hb dL_law_1001 (lv_at hl 5 rfl) ?_
  refine lv_iconst (v := nI 2) hx hb dL_law_1003 (by decide +kernel) ?_
  refine iaddN hx hb dL_law_1004 ?_
  refine va_sld hx hb hXs hbl hbA hS (vp_in_nI (n := i + 2) (by omega) (by omega)) dL_law_1005 ?_
  refine tS (st' := [.int (xs (i + 2)), .int (xs (i + 1)), .ref ob]) (by rw [nI_clamp (by omega)]) ?_
  refine lv_aload_n hx hb dL_law_1006 rfl (lv_at hl 1 rfl) ?_
  refine lv_iload hx hb dL_law_1007 (lv_at hl 5 rfl) ?_
  refine lv_iconst (v := nI 3) hx hb dL_law_1009 (by decide +kernel) ?_
  refine iaddN hx hb dL_law_1010 ?_
  refine va_sld hx hb hXs hbl hbA hS (vp_in_nI (n := i + 3) (by omega) (by omega)) dL_law_1011 ?_
  refine tS (st' := [.int (xs (i + 3)), .int (xs (i + 2)), .int (xs (i + 1)), .ref ob]) (by rw [nI_clamp (by omega)]) ?_
  refine mcall (st1 := [.int (nI 0)]) (va_runV (As := [.int (xs (i + 1)), .int (xs (i + 2)), .int (xs (i + 3))]) (rest := []) ⟨hx, hb, hml, hown, hts⟩ (MX_deck_e2a l G hM hR (by omega) (xs (i + 1)) (xs (i + 2)) (xs (i + 3)) h1 hNo) (cwV 3 hts gL_law_X6_deck rfl rfl rfl (by decide +kernel) ⟨Nat.le_of_ble_eq_true rfl, Nat.le_of_ble_eq_true rfl⟩) (PJ.preV hE hJ (rs_recv hE.1 hM (P_pre hPb)) ⟨P_pre hPb, (D_pre hDb).weaken (fun _ _ _ _ => trivial)⟩) rfl rfl hl.1 rfl (lv_room (Nat.le_of_ble_eq_true rfl)) dL_law_1012 ⟨by show _ + 0 ≤ 601024; omega, by show _ + 0 ≤ 7293034; omega⟩) hS (fun q _ h => inW_D (D_pre hDb) q h) (fun q h => inW_D (D_pre hDb) q h) rfl (fun H1 locs1 hB9 hz9 hk1 hS => ?_)
  obtain ⟨MC', hM', hP1, hD1⟩ := hB9
  obtain ⟨hP3, hD3⟩ := jnF (w1 := MC') hPb hDb hk1 hP1 hD1
  generalize H1 = H at hP3 hS ⊢
  refine lv_istore (lv' := [(6, .int (nI 0)), (5, .int (nI 2)), (0, .ref b), (1, .ref fe), (2, .ref ob), (3, .ref ou), (4, .int (nI i))]) hx hb dL_law_1015 hl (by decide) rfl (fun ls hl => ?_)
  refine lv_aload_n hx hb dL_law_1017 rfl (lv_at hl 4 rfl) ?_
  refine pcall (st1 := [.int (nI 2)]) (va_runV (As := []) (rest := []) ⟨hx, hb, hml, hown, hts⟩ (MX_thrown l G hM') (cwV 0 hts gL_law_X6_thrown rfl rfl rfl (by decide +kernel) ⟨Nat.le_of_ble_eq_true rfl, Nat.le_of_ble_eq_true rfl⟩) (PC.preV hE (rs_recv hE.1 hM' (P_pre hP3)) (P_pre hP3)) rfl rfl hl.1 rfl (lv_room (Nat.le_of_ble_eq_true rfl)) dL_law_1018 ⟨by show _ + 0 ≤ 601024; omega, by show _ + 0 ≤ 7293034; omega⟩) rfl ?_
  refine lv_iload hx hb dL_law_1021 (lv_at hl 1 rfl) ?_
  refine icmp_eqN (tgt := 1028) hx hb (by decide) (by decide) dL_law_1023 (by decide) (fun _ => ?_) (fun h => absurd rfl h)
  refine lv_iload hx hb dL_law_1028 (lv_at hl 1 rfl) ?_
  refine if_neN (tgt := 1045) hx hb (by decide) dL_law_1030 (by decide) (fun _ => ?_) (fun h => absurd h (by decide))
  refine lv_goto (tgt := 1491) hx hb dL_law_1045 (by decide) ?_
  refine W.widen (k := cells + 1) (n := slots + 6) (by omega) (by omega) ?_
  have hP4 : va_P G.1 vwCl ([(ou, .inl (cJ, 1, .inr (.inl lo)))] ++ (WC ++ MC')) H := P_perm ((List.perm_append_comm).trans (by rw [List.append_assoc])) hP3
  have hD4 : va_D (AA s) ([(ou, .inl (cJ, 1, .inr (.inl lo)))] ++ (WC ++ MC')) := D_perm ((List.perm_append_comm).trans (by rw [List.append_assoc])) hD3
  exact kk _ _ _ _ _ _ _ _ _ _ _ _ _ _ _ ⟨hX, PR_mono (by omega) hR, hM', hP4, hD4, hS, lv_sub hl [2, 3, 4, 5, 6] rfl⟩

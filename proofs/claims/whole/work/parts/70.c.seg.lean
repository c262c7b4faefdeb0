set_option maxHeartbeats 4000000 in
set_option maxRecDepth 100000 in
theorem seg_deck_e2b {p : Program} {l : Launch} {e : Env} {s : State} {m : MethodId} {below : List Frame} {meth : Method} {c : Code} {b L : Nat} {xs : Nat → Int32} {G : eG} {cJ : ClassId} {Q : State → Prop} (hlt : l.stackTraces = false) (hL : LX p s m c b L xs G cJ) {fe ob ou B i : Nat} {f sf : Nat → Int32} {ff : Nat → Nat → Int32} {old sz len : Nat} {tx : Nat → Int32} {hsn thr : Int32} {lo : Nat → Int64} {WC MC : va_W} {H : Heap} {locs : List Loc} {ls : Array Slot} {cells slots : Nat} (hD : LD s G cJ b fe ob ou B f sf ff old sz len tx hsn thr lo WC MC H locs ls i) (hi : i + 4 ≤ L) (hLL : L ≤ 2048) (hB : B + 10000 < 700000000) (hc1 : cells + 1 ≤ 601024) (hs1 : slots + 6 ≤ 7293034) (h1 : nI 0 ≤ (xs (i + 1)) ∧ (xs (i + 1)) ≤ nI 1) (hE0 : ¬ (xs (i + 2)) < 0) (hNo : ¬ (nI 0 ≤ (xs (i + 3)) ∧ (xs (i + 3)) ≤ nI 1))  (kk : ∀ (f sf : Nat → Int32) (ff : Nat → Nat → Int32) (old sz len : Nat) (tx : Nat → Int32) (hsn thr : Int32) (lo : Nat → Int64) (WC MC : va_W) (H : Heap) (locs : List Loc) (ls : Array Slot), LD s G cJ b fe ob ou (B + 10000) f sf ff old sz len tx hsn thr lo WC MC H locs ls i → W p l e room_1 s m #[Value.ref b] below meth c H locs (cells + 1) (slots + 6) Q (F0 m 1491 ls [])) : W p l e room_1 s m #[Value.ref b] below meth c H locs cells slots Q (F0 m 968 ls []) := by
  obtain ⟨hx, hb, hml, hown, hts, hE, hJ0, hKJ, hXs, hbl⟩ := hL
  obtain ⟨hX, hR, hM, hP, hDD, hS, hl⟩ := hD
  have hbA : ¬ AA s b := Nat.not_le.mpr hbl
  have hJ : JX s H := hJ0.kept (fun a ha => hS.2.1 a ha (Nat.not_le.mpr ha))
  refine lv_aload_n hx hb dL_law_968 rfl (lv_at hl 1 rfl) ?_
  refine lv_aload_n hx hb dL_law_969 rfl (lv_at hl 0 rfl) ?_
  refine lv_iload hx hb dL_law_970 (lv_at hl 4 rfl) ?_
  refine lv_iconst (v := nI 1) hx hb dL_law_972 (by decide +kernel) ?_
  refine iaddN hx hb dL_law_973 ?_
  refine va_sld hx hb hXs hbl hbA hS (vp_in_nI (n := i + 1) (by omega) (by omega)) dL_law_974 ?_
  refine tS (st' := [.int (xs (i + 1)), .ref fe]) (by rw [nI_clamp (by omega)]) ?_
  refine lv_aload_n hx hb dL_law_975 rfl (lv_at hl 0 rfl) ?_
  refine lv_iload hx hb dL_law_976 (lv_at hl 4 rfl) ?_
  refine lv_iconst (v := nI 2) hx hb dL_law_978 (by decide +kernel) ?_
  refine iaddN hx hb dL_law_979 ?_
  refine va_sld hx hb hXs hbl hbA hS (vp_in_nI (n := i + 2) (by omega) (by omega)) dL_law_980 ?_
  refine tS (st' := [.int (xs (i + 2)), .int (xs (i + 1)), .ref fe]) (by rw [nI_clamp (by omega)]) ?_
  refine lv_aload_n hx hb dL_law_981 rfl (lv_at hl 0 rfl) ?_
  refine lv_iload hx hb dL_law_982 (lv_at hl 4 rfl) ?_
  refine lv_iconst (v := nI 3) hx hb dL_law_984 (by decide +kernel) ?_
  refine iaddN hx hb dL_law_985 ?_
  refine va_sld hx hb hXs hbl hbA hS (vp_in_nI (n := i + 3) (by omega) (by omega)) dL_law_986 ?_
  refine tS (st' := [.int (xs (i + 3)), .int (xs (i + 2)), .int (xs (i + 1)), .ref fe]) (by rw [nI_clamp (by omega)]) ?_
  refine lv_aload_n hx hb dL_law_987 rfl (lv_at hl 3 rfl) ?_
  have hPw : va_P G.1 vwCl (WC ++ MC) H := P_pre (P_perm List.perm_append_comm hP)
  have hDw : va_D (AA s) (WC ++ MC) := D_pre (D_perm List.perm_append_comm hDD)
  refine mcall (st1 := [.int (nI 2)]) (vx_runSW (As := [.ref fe, .int (xs (i + 1)), .int (xs (i + 2)), .int (xs (i + 3)), .ref ou]) (rest := []) ⟨hx, hb, hml, hown, hts⟩ (CL_deck_e2b l hlt G cJ hX hR (by omega) (xs (i + 1)) (xs (i + 2)) (xs (i + 3)) h1 hE0 hNo) (vx_cwSW 5 hts gL_law_L_deck rfl rfl rfl (by decide +kernel) ⟨Nat.le_of_ble_eq_true rfl, Nat.le_of_ble_eq_true rfl⟩) (PL.preS hE hJ hKJ ⟨P_pre hPw, (D_pre hDw).weaken (fun _ _ _ _ => trivial)⟩) rfl rfl hl.1 rfl (lv_room (Nat.le_of_ble_eq_true rfl)) dL_law_988 ⟨by show cells + 1 ≤ 601024; omega, by show slots + 6 ≤ 7293034; omega⟩) hS (fun q _ h => (h : False).elim) (fun q h => (h : False).elim) rfl (fun H1 locs1 hB9 hz9 hk1 hS => ?_)
  have hP2 := P_kept hP (fun a ha => hk1 a ha (fun h => h))
  generalize H1 = H at hP2 hS ⊢
  replace hJ : JX s H := hJ0.kept (fun a ha => hS.2.1 a ha (Nat.not_le.mpr ha))
  have hPa : va_P G.1 vwCl (([(ou, .inl (cJ, 1, .inr (.inl lo)))] ++ WC) ++ MC) H := by rw [List.append_assoc]; exact hP2
  have hDa : va_D (AA s) (([(ou, .inl (cJ, 1, .inr (.inl lo)))] ++ WC) ++ MC) := by rw [List.append_assoc]; exact hDD
  have hPb : va_P G.1 vwCl (MC ++ ([(ou, .inl (cJ, 1, .inr (.inl lo)))] ++ WC)) H := P_perm List.perm_append_comm hPa
  have hDb : va_D (AA s) (MC ++ ([(ou, .inl (cJ, 1, .inr (.inl lo)))] ++ WC)) := D_perm List.perm_append_comm hDa
  refine lv_istore (lv' := [(5, .int (nI 2)), (0, .ref b), (1, .ref fe), (2, .ref ob), (3, .ref ou), (4, .int (nI i))]) hx hb dL_law_991 hl (by decide) rfl (fun ls hl => ?_)
  refine lv_aload_n hx hb dL_law_993 rfl (lv_at hl 3 rfl) ?_
  refine lv_aload_n hx hb dL_law_994 rfl (lv_at hl 1 rfl) ?_
  refine lv_iload hx hb dL_law_995 (lv_at hl 5 rfl) ?_
  refine lv_iconst (v := nI 1) hx hb dL_law_997 (by decide +kernel) ?_
  refine iaddN hx hb dL_law_998 ?_
  refine va_sld hx hb hXs hbl hbA hS (vp_in_nI (n := i + 1) (by omega) (by omega)) dL_law_999 ?_
  refine tS (st' := [.int (xs (i + 1)), .ref ob]) (by rw [nI_clamp (by omega)]) ?_
  refine lv_aload_n hx hb dL_law_1000 rfl (lv_at hl 1 rfl) ?_
  refine lv_iload hx hb dL_law_1001 (lv_at hl 5 rfl) ?_
  refine lv_iconst (v := nI 2) hx hb dL_law_1003 (by decide +kernel) ?_
  refine iaddN hx hb dL_law_1004 ?_
  refine va_sld hx hb hXs hbl hbA hS (vp_in_nI (n := i + 2) (by omega) (by omega)) dL_law_1005 ?_
  refine tS (st' := [.int (xs (i + 2)), .int (xs (i + 1)), .ref ob]) (by rw [nI_clamp (by omega)]) ?_
  refine lv_aload_n hx hb dL_law_1006 rfl (lv_at hl 1 rfl) ?_
  refine lv_iload hx hb dL_law_1007 (lv_at hl 5 rfl) ?_
  refine lv_iconst (v := nI 3) hx hb dL_law_1009 (by decide +kernel) ?_
  refine iaddN hx hb dL_law_1010 ?_
  refine va_sld hx hb hXs hbl hbA hS (vp_in_nI (n := i + 3) (by omega) (by omega)) dL_law_1011 ?_
  refine tS (st' := [.int (xs (i + 3)), .int (xs (i + 2)), .int (xs (i + 1)), .ref ob]) (by rw [nI_clamp (by omega)]) ?_
  refine mcall (st1 := [.int (nI 0)]) (va_runV (As := [.int (xs (i + 1)), .int (xs (i + 2)), .int (xs (i + 3))]) (rest := []) ⟨hx, hb, hml, hown, hts⟩ (MX_deck_e2b l G hM hR (by omega) (xs (i + 1)) (xs (i + 2)) (xs (i + 3)) h1 hE0 hNo) (cwV 3 hts gL_law_X6_deck rfl rfl rfl (by decide +kernel) ⟨Nat.le_of_ble_eq_true rfl, Nat.le_of_ble_eq_true rfl⟩) (PJ.preV hE hJ (rs_recv hE.1 hM (P_pre hPb)) ⟨P_pre hPb, (D_pre hDb).weaken (fun _ _ _ _ => trivial)⟩) rfl rfl hl.1 rfl (lv_room (Nat.le_of_ble_eq_true rfl)) dL_law_1012 ⟨by show _ + 0 ≤ 601024; omega, by show _ + 0 ≤ 7293034; omega⟩) hS (fun q _ h => inW_D (D_pre hDb) q h) (fun q h => inW_D (D_pre hDb) q h) rfl (fun H1 locs1 hB9 hz9 hk1 hS => ?_)
  obtain ⟨MC', hM', hP1, hD1⟩ := hB9
  obtain ⟨hP3, hD3⟩ := jnF (w1 := MC') hPb hDb hk1 hP1 hD1
  generalize H1 = H at hP3 hS ⊢
  refine lv_istore (lv' := [(6, .int (nI 0)), (5, .int (nI 2)), (0, .ref b), (1, .ref fe), (2, .ref ob), (3, .ref ou), (4, .int (nI i))]) hx hb dL_law_1015 hl (by decide) rfl (fun ls hl => ?_)
  refine lv_aload_n hx hb dL_law_1017 rfl (lv_at hl 4 rfl) ?_
  refine pcall (st1 := [.int (nI 2)]) (va_runV (As := []) (rest := []) ⟨hx, hb, hml, hown, hts⟩ (MX_thrown l G hM') (cwV 0 hts gL_law_X6_thrown rfl rfl rfl (by decide +kernel) ⟨Nat.le_of_ble_eq_true rfl, Nat.le_of_ble_eq_true rfl⟩) (PC.preV hE (rs_recv hE.1 hM' (P_pre hP3)) (P_pre hP3)) rfl rfl hl.1 rfl (lv_room (Nat.le_of_ble_eq_true rfl)) dL_law_1018 ⟨by show _ + 0 ≤ 601024; omega, by show _ + 0 ≤ 7293034; omega⟩) rfl ?_
  refine lv_iload hx hb dL_law_1021 (lv_at hl 1 rfl) ?_
  refine icmp_eqN (tgt := 1028) hx hb (by decide) (by decide) dL_law_1023 (by decide) (fun _ => ?_) (fun h => absurd rfl h)
  refine lv_iload hx hb dL_law_1028 (lv_at hl 1 rfl) ?_
  refine if_neN (tgt := 1045) hx hb (by decide) dL_law_1030 (by decide) (fun _ => ?_) (fun h => absurd h (by decide))
  refine lv_goto (tgt := 1491) hx hb dL_law_1045 (by decide) ?_
  refine W.widen (k := cells + 1) (n := slots + 6) (by omega) (by omega) ?_
  have hP4 : va_P G.1 vwCl ([(ou, .inl (cJ, 1, .inr (.inl lo)))] ++ (WC ++ MC')) H := P_perm ((List.perm_append_comm).trans (by rw [List.append_assoc])) hP3
  have hD4 : va_D (AA s) ([(ou, .inl (cJ, 1, .inr (.inl lo)))] ++ (WC ++ MC')) := D_perm ((List.perm_append_comm).trans (by rw [List.append_assoc])) hD3
  exact kk _ _ _ _ _ _ _ _ _ _ _ _ _ _ _ ⟨hX, PR_mono (by omega) hR, hM', hP4, hD4, hS, lv_sub hl [2, 3, 4, 5, 6] rfl⟩
set_option maxHeartbeats 4000000 in
set_option maxRecDepth 100000 in
theorem seg_count_ok {p : Program} {l : Launch} {e : Env} {s : State} {m : MethodId} {below : List Frame} {meth : Method} {c : Code} {b L : Nat} {xs : Nat → Int32} {G : eG} {cJ : ClassId} {Q : State → Prop} (hlt : l.stackTraces = false) (hL : LX p s m c b L xs G cJ) {fe ob ou B i : Nat} {f sf : Nat → Int32} {ff : Nat → Nat → Int32} {old sz len : Nat} {tx : Nat → Int32} {hsn thr : Int32} {lo : Nat → Int64} {WC MC : va_W} {H : Heap} {locs : List Loc} {ls : Array Slot} {cells slots : Nat} (hD : LD s G cJ b fe ob ou B f sf ff old sz len tx hsn thr lo WC MC H locs ls i) (hi : i + 4 ≤ L) (hLL : L ≤ 2048) (hB : B + 10000 < 700000000) (hc1 : cells + 1 ≤ 601024) (hs1 : slots + 6 ≤ 7293034) (x : Nat) (hw : x < 14) (e1 : xs (i + 1) = nI x) (kk : ∀ (f sf : Nat → Int32) (ff : Nat → Nat → Int32) (old sz len : Nat) (tx : Nat → Int32) (hsn thr : Int32) (lo : Nat → Int64) (WC MC : va_W) (H : Heap) (locs : List Loc) (ls : Array Slot), LD s G cJ b fe ob ou (B + 10000) f sf ff old sz len tx hsn thr lo WC MC H locs ls i → W p l e room_1 s m #[Value.ref b] below meth c H locs (cells + 1) (slots + 6) Q (F0 m 1491 ls [])) : W p l e room_1 s m #[Value.ref b] below meth c H locs cells slots Q (F0 m 1048 ls []) := by
  obtain ⟨hx, hb, hml, hown, hts, hE, hJ0, hKJ, hXs, hbl⟩ := hL
  obtain ⟨hX, hR, hM, hP, hDD, hS, hl⟩ := hD
  have hbA : ¬ AA s b := Nat.not_le.mpr hbl
  have hJ : JX s H := hJ0.kept (fun a ha => hS.2.1 a ha (Nat.not_le.mpr ha))
  refine lv_aload_n hx hb dL_law_1048 rfl (lv_at hl 1 rfl) ?_
  refine lv_aload_n hx hb dL_law_1049 rfl (lv_at hl 0 rfl) ?_
  refine lv_iload hx hb dL_law_1050 (lv_at hl 4 rfl) ?_
  refine lv_iconst (v := nI 1) hx hb dL_law_1052 (by decide +kernel) ?_
  refine iaddN hx hb dL_law_1053 ?_
  refine va_sld hx hb hXs hbl hbA hS (vp_in_nI (n := i + 1) (by omega) (by omega)) dL_law_1054 ?_
  refine tS (st' := [.int (nI x), .ref fe]) (by rw [nI_clamp (by omega), e1]) ?_
  refine lv_aload_n hx hb dL_law_1055 rfl (lv_at hl 3 rfl) ?_
  have hPa : va_P G.1 vwCl (([(ou, .inl (cJ, 1, .inr (.inl lo)))] ++ WC) ++ MC) H := by rw [List.append_assoc]; exact hP
  have hDa : va_D (AA s) (([(ou, .inl (cJ, 1, .inr (.inl lo)))] ++ WC) ++ MC) := by rw [List.append_assoc]; exact hDD
  refine mcall (st1 := [.int (nI 0)]) (vx_runSW (As := [.ref fe, .int (nI x), .ref ou]) (rest := []) ⟨hx, hb, hml, hown, hts⟩ (CL_count_ok l G cJ hX hR (by omega) x hw) (vx_cwSW 3 hts gL_law_L_count rfl rfl rfl (by decide +kernel) ⟨Nat.le_of_ble_eq_true rfl, Nat.le_of_ble_eq_true rfl⟩) (PL.preS hE hJ hKJ ⟨P_pre hPa, (D_pre hDa).weaken (fun _ _ _ _ => trivial)⟩) rfl rfl hl.1 rfl (lv_room (Nat.le_of_ble_eq_true rfl)) dL_law_1056 ⟨by show cells + 0 ≤ 601024; omega, by show slots + 0 ≤ 7293034; omega⟩) hS (fun q _ h => inW_D (D_pre hDa) q h) (fun q h => inW_D (D_pre hDa) q h) rfl (fun H1 locs1 hB9 hz9 hk1 hS => ?_)
  obtain ⟨WC', hX', hP1, hD1⟩ := hB9
  obtain ⟨hP2, hD2⟩ := jnF (w1 := [(ou, .inl (cJ, 1, .inr (.inl (vp_updL lo 0 (((fCnt f sz x)).toInt64)))))] ++ WC') hPa hDa hk1 hP1 hD1
  generalize H1 = H at hP2 hS ⊢
  replace hJ : JX s H := hJ0.kept (fun a ha => hS.2.1 a ha (Nat.not_le.mpr ha))
  have hPb : va_P G.1 vwCl (MC ++ ([(ou, .inl (cJ, 1, .inr (.inl (vp_updL lo 0 (((fCnt f sz x)).toInt64)))))] ++ WC')) H := P_perm List.perm_append_comm hP2
  have hDb : va_D (AA s) (MC ++ ([(ou, .inl (cJ, 1, .inr (.inl (vp_updL lo 0 (((fCnt f sz x)).toInt64)))))] ++ WC')) := D_perm List.perm_append_comm hD2
  refine lv_istore (lv' := [(5, .int (nI 0)), (0, .ref b), (1, .ref fe), (2, .ref ob), (3, .ref ou), (4, .int (nI i))]) hx hb dL_law_1059 hl (by decide) rfl (fun ls hl => ?_)
  refine lv_aload_n hx hb dL_law_1061 rfl (lv_at hl 3 rfl) ?_
  refine lv_aload_n hx hb dL_law_1062 rfl (lv_at hl 1 rfl) ?_
  refine lv_iload hx hb dL_law_1063 (lv_at hl 5 rfl) ?_
  refine lv_iconst (v := nI 1) hx hb dL_law_1065 (by decide +kernel) ?_
  refine iaddN hx hb dL_law_1066 ?_
  refine va_sld hx hb hXs hbl hbA hS (vp_in_nI (n := i + 1) (by omega) (by omega)) dL_law_1067 ?_
  refine tS (st' := [.int (nI x), .ref ob]) (by rw [nI_clamp (by omega), e1]) ?_
  refine mcall (st1 := [.int (fCnt f sz x)]) (va_runV (As := [.int (nI x)]) (rest := []) ⟨hx, hb, hml, hown, hts⟩ (MX_count_ok l G hM hR (by omega) x hw) (cwV 1 hts gL_law_X6_count rfl rfl rfl (by decide +kernel) ⟨Nat.le_of_ble_eq_true rfl, Nat.le_of_ble_eq_true rfl⟩) (PJ.preV hE hJ (rs_recv hE.1 hM (P_pre hPb)) ⟨P_pre hPb, (D_pre hDb).weaken (fun _ _ _ _ => trivial)⟩) rfl rfl hl.1 rfl (lv_room (Nat.le_of_ble_eq_true rfl)) dL_law_1068 ⟨by show _ + 0 ≤ 601024; omega, by show _ + 0 ≤ 7293034; omega⟩) hS (fun q _ h => inW_D (D_pre hDb) q h) (fun q h => inW_D (D_pre hDb) q h) rfl (fun H1 locs1 hB9 hz9 hk1 hS => ?_)
  obtain ⟨MC', hM', hP1, hD1⟩ := hB9
  obtain ⟨hP3, hD3⟩ := jnF (w1 := MC') hPb hDb hk1 hP1 hD1
  generalize H1 = H at hP3 hS ⊢
  refine lv_istore (lv' := [(6, .int (fCnt f sz x)), (5, .int (nI 0)), (0, .ref b), (1, .ref fe), (2, .ref ob), (3, .ref ou), (4, .int (nI i))]) hx hb dL_law_1071 hl (by decide) rfl (fun ls hl => ?_)
  refine lv_aload_n hx hb dL_law_1073 rfl (lv_at hl 4 rfl) ?_
  refine pcall (st1 := [.int (nI 0)]) (va_runV (As := []) (rest := []) ⟨hx, hb, hml, hown, hts⟩ (MX_thrown l G hM') (cwV 0 hts gL_law_X6_thrown rfl rfl rfl (by decide +kernel) ⟨Nat.le_of_ble_eq_true rfl, Nat.le_of_ble_eq_true rfl⟩) (PC.preV hE (rs_recv hE.1 hM' (P_pre hP3)) (P_pre hP3)) rfl rfl hl.1 rfl (lv_room (Nat.le_of_ble_eq_true rfl)) dL_law_1074 ⟨by show _ + 0 ≤ 601024; omega, by show _ + 0 ≤ 7293034; omega⟩) rfl ?_
  refine lv_iload hx hb dL_law_1077 (lv_at hl 1 rfl) ?_
  refine icmp_eqN (tgt := 1084) hx hb (by decide) (by decide) dL_law_1079 (by decide) (fun _ => ?_) (fun h => absurd rfl h)
  refine lv_iload hx hb dL_law_1084 (lv_at hl 1 rfl) ?_
  refine if_neN (tgt := 1101) hx hb (by decide) dL_law_1086 (by decide) (fun h => absurd rfl h) (fun _ => ?_)
  refine lv_aload_n hx hb dL_law_1089 rfl (lv_at hl 5 rfl) ?_
  refine lv_iconst (v := nI 0) hx hb dL_law_1090 (by decide +kernel) ?_
  refine va_lald hx hb hKJ (P_pre (P_perm ((List.perm_append_comm).trans (by rw [List.append_assoc])) hP3)) 0 0 rfl rfl (vp_in_nI (n := 0) (N := 1) (by decide) (by decide)) dL_law_1091 ?_
  refine tS (st' := [.long (((fCnt f sz x)).toInt64)]) (by rw [nI_clamp (by decide), pk_uLs]) ?_
  refine lv_iload hx hb dL_law_1092 (lv_at hl 0 rfl) ?_
  refine lv_i2l (v := ((fCnt f sz x)).toInt64) hx hb dL_law_1094 rfl ?_
  refine lv_lcmpE hx hb dL_law_1095 ?_
  refine if_eqN (tgt := 1101) hx hb (by decide) dL_law_1096 (by decide) (fun _ => ?_) (fun h => absurd rfl h)
  refine lv_goto (tgt := 1491) hx hb dL_law_1101 (by decide) ?_
  refine W.widen (k := cells + 1) (n := slots + 6) (by omega) (by omega) ?_
  have hP4 : va_P G.1 vwCl ([(ou, .inl (cJ, 1, .inr (.inl (vp_updL lo 0 (((fCnt f sz x)).toInt64)))))] ++ (WC' ++ MC')) H := P_perm ((List.perm_append_comm).trans (by rw [List.append_assoc])) hP3
  have hD4 : va_D (AA s) ([(ou, .inl (cJ, 1, .inr (.inl (vp_updL lo 0 (((fCnt f sz x)).toInt64)))))] ++ (WC' ++ MC')) := D_perm ((List.perm_append_comm).trans (by rw [List.append_assoc])) hD3
  exact kk _ _ _ _ _ _ _ _ _ _ _ _ _ _ _ ⟨hX', PR_mono (by omega) hR, hM', hP4, hD4, hS, lv_sub hl [2, 3, 4, 5, 6] rfl⟩
set_option maxHeartbeats 4000000 in
set_option maxRecDepth 100000 in
theorem seg_count_e1 {p : Program} {l : Launch} {e : Env} {s : State} {m : MethodId} {below : List Frame} {meth : Method} {c : Code} {b L : Nat} {xs : Nat → Int32} {G : eG} {cJ : ClassId} {Q : State → Prop} (hlt : l.stackTraces = false) (hL : LX p s m c b L xs G cJ) {fe ob ou B i : Nat} {f sf : Nat → Int32} {ff : Nat → Nat → Int32} {old sz len : Nat} {tx : Nat → Int32} {hsn thr : Int32} {lo : Nat → Int64} {WC MC : va_W} {H : Heap} {locs : List Loc} {ls : Array Slot} {cells slots : Nat} (hD : LD s G cJ b fe ob ou B f sf ff old sz len tx hsn thr lo WC MC H locs ls i) (hi : i + 4 ≤ L) (hLL : L ≤ 2048) (hB : B + 10000 < 700000000) (hc1 : cells + 1 ≤ 601024) (hs1 : slots + 6 ≤ 7293034) (hNo : ¬ (nI 0 ≤ (xs (i + 1)) ∧ (xs (i + 1)) ≤ nI 13))  (kk : ∀ (f sf : Nat → Int32) (ff : Nat → Nat → Int32) (old sz len : Nat) (tx : Nat → Int32) (hsn thr : Int32) (lo : Nat → Int64) (WC MC : va_W) (H : Heap) (locs : List Loc) (ls : Array Slot), LD s G cJ b fe ob ou (B + 10000) f sf ff old sz len tx hsn thr lo WC MC H locs ls i → W p l e room_1 s m #[Value.ref b] below meth c H locs (cells + 1) (slots + 6) Q (F0 m 1491 ls [])) : W p l e room_1 s m #[Value.ref b] below meth c H locs cells slots Q (F0 m 1048 ls []) := by
  obtain ⟨hx, hb, hml, hown, hts, hE, hJ0, hKJ, hXs, hbl⟩ := hL
  obtain ⟨hX, hR, hM, hP, hDD, hS, hl⟩ := hD
  have hbA : ¬ AA s b := Nat.not_le.mpr hbl
  have hJ : JX s H := hJ0.kept (fun a ha => hS.2.1 a ha (Nat.not_le.mpr ha))
  refine lv_aload_n hx hb dL_law_1048 rfl (lv_at hl 1 rfl) ?_
  refine lv_aload_n hx hb dL_law_1049 rfl (lv_at hl 0 rfl) ?_
  refine lv_iload hx hb dL_law_1050 (lv_at hl 4 rfl) ?_
  refine lv_iconst (v := nI 1) hx hb dL_law_1052 (by decide +kernel) ?_
  refine iaddN hx hb dL_law_1053 ?_
  refine va_sld hx hb hXs hbl hbA hS (vp_in_nI (n := i + 1) (by omega) (by omega)) dL_law_1054 ?_
  refine tS (st' := [.int (xs (i + 1)), .ref fe]) (by rw [nI_clamp (by omega)]) ?_
  refine lv_aload_n hx hb dL_law_1055 rfl (lv_at hl 3 rfl) ?_
  have hPw : va_P G.1 vwCl (WC ++ MC) H := P_pre (P_perm List.perm_append_comm hP)
  have hDw : va_D (AA s) (WC ++ MC) := D_pre (D_perm List.perm_append_comm hDD)
  refine mcall (st1 := [.int (nI 1)]) (vx_runSW (As := [.ref fe, .int (xs (i + 1)), .ref ou]) (rest := []) ⟨hx, hb, hml, hown, hts⟩ (CL_count_e1 l hlt G cJ hX hR (by omega) (xs (i + 1)) hNo) (vx_cwSW 3 hts gL_law_L_count rfl rfl rfl (by decide +kernel) ⟨Nat.le_of_ble_eq_true rfl, Nat.le_of_ble_eq_true rfl⟩) (PL.preS hE hJ hKJ ⟨P_pre hPw, (D_pre hDw).weaken (fun _ _ _ _ => trivial)⟩) rfl rfl hl.1 rfl (lv_room (Nat.le_of_ble_eq_true rfl)) dL_law_1056 ⟨by show cells + 1 ≤ 601024; omega, by show slots + 6 ≤ 7293034; omega⟩) hS (fun q _ h => (h : False).elim) (fun q h => (h : False).elim) rfl (fun H1 locs1 hB9 hz9 hk1 hS => ?_)
  have hP2 := P_kept hP (fun a ha => hk1 a ha (fun h => h))
  generalize H1 = H at hP2 hS ⊢
  replace hJ : JX s H := hJ0.kept (fun a ha => hS.2.1 a ha (Nat.not_le.mpr ha))
  have hPa : va_P G.1 vwCl (([(ou, .inl (cJ, 1, .inr (.inl lo)))] ++ WC) ++ MC) H := by rw [List.append_assoc]; exact hP2
  have hDa : va_D (AA s) (([(ou, .inl (cJ, 1, .inr (.inl lo)))] ++ WC) ++ MC) := by rw [List.append_assoc]; exact hDD
  have hPb : va_P G.1 vwCl (MC ++ ([(ou, .inl (cJ, 1, .inr (.inl lo)))] ++ WC)) H := P_perm List.perm_append_comm hPa
  have hDb : va_D (AA s) (MC ++ ([(ou, .inl (cJ, 1, .inr (.inl lo)))] ++ WC)) := D_perm List.perm_append_comm hDa
  refine lv_istore (lv' := [(5, .int (nI 1)), (0, .ref b), (1, .ref fe), (2, .ref ob), (3, .ref ou), (4, .int (nI i))]) hx hb dL_law_1059 hl (by decide) rfl (fun ls hl => ?_)
  refine lv_aload_n hx hb dL_law_1061 rfl (lv_at hl 3 rfl) ?_
  refine lv_aload_n hx hb dL_law_1062 rfl (lv_at hl 1 rfl) ?_
  refine lv_iload hx hb dL_law_1063 (lv_at hl 5 rfl) ?_
  refine lv_iconst (v := nI 1) hx hb dL_law_1065 (by decide +kernel) ?_
  refine iaddN hx hb dL_law_1066 ?_
  refine va_sld hx hb hXs hbl hbA hS (vp_in_nI (n := i + 1) (by omega) (by omega)) dL_law_1067 ?_
  refine tS (st' := [.int (xs (i + 1)), .ref ob]) (by rw [nI_clamp (by omega)]) ?_
  refine mcall (st1 := [.int (nI 0)]) (va_runV (As := [.int (xs (i + 1))]) (rest := []) ⟨hx, hb, hml, hown, hts⟩ (MX_count_e1 l G hM hR (by omega) (xs (i + 1)) hNo) (cwV 1 hts gL_law_X6_count rfl rfl rfl (by decide +kernel) ⟨Nat.le_of_ble_eq_true rfl, Nat.le_of_ble_eq_true rfl⟩) (PJ.preV hE hJ (rs_recv hE.1 hM (P_pre hPb)) ⟨P_pre hPb, (D_pre hDb).weaken (fun _ _ _ _ => trivial)⟩) rfl rfl hl.1 rfl (lv_room (Nat.le_of_ble_eq_true rfl)) dL_law_1068 ⟨by show _ + 0 ≤ 601024; omega, by show _ + 0 ≤ 7293034; omega⟩) hS (fun q _ h => inW_D (D_pre hDb) q h) (fun q h => inW_D (D_pre hDb) q h) rfl (fun H1 locs1 hB9 hz9 hk1 hS => ?_)
  obtain ⟨MC', hM', hP1, hD1⟩ := hB9
  obtain ⟨hP3, hD3⟩ := jnF (w1 := MC') hPb hDb hk1 hP1 hD1
  generalize H1 = H at hP3 hS ⊢
  refine lv_istore (lv' := [(6, .int (nI 0)), (5, .int (nI 1)), (0, .ref b), (1, .ref fe), (2, .ref ob), (3, .ref ou), (4, .int (nI i))]) hx hb dL_law_1071 hl (by decide) rfl (fun ls hl => ?_)
  refine lv_aload_n hx hb dL_law_1073 rfl (lv_at hl 4 rfl) ?_
  refine pcall (st1 := [.int (nI 1)]) (va_runV (As := []) (rest := []) ⟨hx, hb, hml, hown, hts⟩ (MX_thrown l G hM') (cwV 0 hts gL_law_X6_thrown rfl rfl rfl (by decide +kernel) ⟨Nat.le_of_ble_eq_true rfl, Nat.le_of_ble_eq_true rfl⟩) (PC.preV hE (rs_recv hE.1 hM' (P_pre hP3)) (P_pre hP3)) rfl rfl hl.1 rfl (lv_room (Nat.le_of_ble_eq_true rfl)) dL_law_1074 ⟨by show _ + 0 ≤ 601024; omega, by show _ + 0 ≤ 7293034; omega⟩) rfl ?_
  refine lv_iload hx hb dL_law_1077 (lv_at hl 1 rfl) ?_
  refine icmp_eqN (tgt := 1084) hx hb (by decide) (by decide) dL_law_1079 (by decide) (fun _ => ?_) (fun h => absurd rfl h)
  refine lv_iload hx hb dL_law_1084 (lv_at hl 1 rfl) ?_
  refine if_neN (tgt := 1101) hx hb (by decide) dL_law_1086 (by decide) (fun _ => ?_) (fun h => absurd h (by decide))
  refine lv_goto (tgt := 1491) hx hb dL_law_1101 (by decide) ?_
  refine W.widen (k := cells + 1) (n := slots + 6) (by omega) (by omega) ?_
  have hP4 : va_P G.1 vwCl ([(ou, .inl (cJ, 1, .inr (.inl lo)))] ++ (WC ++ MC')) H := P_perm ((List.perm_append_comm).trans (by rw [List.append_assoc])) hP3
  have hD4 : va_D (AA s) ([(ou, .inl (cJ, 1, .inr (.inl lo)))] ++ (WC ++ MC')) := D_perm ((List.perm_append_comm).trans (by rw [List.append_assoc])) hD3
  exact kk _ _ _ _ _ _ _ _ _ _ _ _ _ _ _ ⟨hX, PR_mono (by omega) hR, hM', hP4, hD4, hS, lv_sub hl [2, 3, 4, 5, 6] rfl⟩
set_option maxHeartbeats 4000000 in
set_option maxRecDepth 100000 in
theorem seg_currentOf_ok {p : Program} {l : Launch} {e : Env} {s : State} {m : MethodId} {below : List Frame} {meth : Method} {c : Code} {b L : Nat} {xs : Nat → Int32} {G : eG} {cJ : ClassId} {Q : State → Prop} (hlt : l.stackTraces = false) (hL : LX p s m c b L xs G cJ) {fe ob ou B i : Nat} {f sf : Nat → Int32} {ff : Nat → Nat → Int32} {old sz len : Nat} {tx : Nat → Int32} {hsn thr : Int32} {lo : Nat → Int64} {WC MC : va_W} {H : Heap} {locs : List Loc} {ls : Array Slot} {cells slots : Nat} (hD : LD s G cJ b fe ob ou B f sf ff old sz len tx hsn thr lo WC MC H locs ls i) (hi : i + 4 ≤ L) (hLL : L ≤ 2048) (hB : B + 10000 < 700000000) (hc1 : cells + 1 ≤ 601024) (hs1 : slots + 6 ≤ 7293034) (h : Nat) (hh : h < 24) (e1 : xs (i + 1) = nI h) (kk : ∀ (f sf : Nat → Int32) (ff : Nat → Nat → Int32) (old sz len : Nat) (tx : Nat → Int32) (hsn thr : Int32) (lo : Nat → Int64) (WC MC : va_W) (H : Heap) (locs : List Loc) (ls : Array Slot), LD s G cJ b fe ob ou (B + 10000) f sf ff old sz len tx hsn thr lo WC MC H locs ls i → W p l e room_1 s m #[Value.ref b] below meth c H locs (cells + 1) (slots + 6) Q (F0 m 1491 ls [])) : W p l e room_1 s m #[Value.ref b] below meth c H locs cells slots Q (F0 m 1104 ls []) := by
  obtain ⟨hx, hb, hml, hown, hts, hE, hJ0, hKJ, hXs, hbl⟩ := hL
  obtain ⟨hX, hR, hM, hP, hDD, hS, hl⟩ := hD
  have hbA : ¬ AA s b := Nat.not_le.mpr hbl
  have hJ : JX s H := hJ0.kept (fun a ha => hS.2.1 a ha (Nat.not_le.mpr ha))
  refine lv_aload_n hx hb dL_law_1104 rfl (lv_at hl 1 rfl) ?_
  refine lv_aload_n hx hb dL_law_1105 rfl (lv_at hl 0 rfl) ?_
  refine lv_iload hx hb dL_law_1106 (lv_at hl 4 rfl) ?_
  refine lv_iconst (v := nI 1) hx hb dL_law_1108 (by decide +kernel) ?_
  refine iaddN hx hb dL_law_1109 ?_
  refine va_sld hx hb hXs hbl hbA hS (vp_in_nI (n := i + 1) (by omega) (by omega)) dL_law_1110 ?_
  refine tS (st' := [.int (nI h), .ref fe]) (by rw [nI_clamp (by omega), e1]) ?_
  refine lv_aload_n hx hb dL_law_1111 rfl (lv_at hl 3 rfl) ?_
  have hPa : va_P G.1 vwCl (([(ou, .inl (cJ, 1, .inr (.inl lo)))] ++ WC) ++ MC) H := by rw [List.append_assoc]; exact hP
  have hDa : va_D (AA s) (([(ou, .inl (cJ, 1, .inr (.inl lo)))] ++ WC) ++ MC) := by rw [List.append_assoc]; exact hDD
  refine mcall (st1 := [.int (nI 0)]) (vx_runSW (As := [.ref fe, .int (nI h), .ref ou]) (rest := []) ⟨hx, hb, hml, hown, hts⟩ (CL_currentOf_ok l G cJ hX hR (by omega) h hh) (vx_cwSW 3 hts gL_law_L_currentOf rfl rfl rfl (by decide +kernel) ⟨Nat.le_of_ble_eq_true rfl, Nat.le_of_ble_eq_true rfl⟩) (PL.preS hE hJ hKJ ⟨P_pre hPa, (D_pre hDa).weaken (fun _ _ _ _ => trivial)⟩) rfl rfl hl.1 rfl (lv_room (Nat.le_of_ble_eq_true rfl)) dL_law_1112 ⟨by show cells + 0 ≤ 601024; omega, by show slots + 0 ≤ 7293034; omega⟩) hS (fun q _ h => inW_D (D_pre hDa) q h) (fun q h => inW_D (D_pre hDa) q h) rfl (fun H1 locs1 hB9 hz9 hk1 hS => ?_)
  obtain ⟨WC', hX', hP1, hD1⟩ := hB9
  obtain ⟨hP2, hD2⟩ := jnF (w1 := [(ou, .inl (cJ, 1, .inr (.inl (vp_updL lo 0 (((f (3 + h))).toInt64)))))] ++ WC') hPa hDa hk1 hP1 hD1
  generalize H1 = H at hP2 hS ⊢
  replace hJ : JX s H := hJ0.kept (fun a ha => hS.2.1 a ha (Nat.not_le.mpr ha))
  have hPb : va_P G.1 vwCl (MC ++ ([(ou, .inl (cJ, 1, .inr (.inl (vp_updL lo 0 (((f (3 + h))).toInt64)))))] ++ WC')) H := P_perm List.perm_append_comm hP2
  have hDb : va_D (AA s) (MC ++ ([(ou, .inl (cJ, 1, .inr (.inl (vp_updL lo 0 (((f (3 + h))).toInt64)))))] ++ WC')) := D_perm List.perm_append_comm hD2
  refine lv_istore (lv' := [(5, .int (nI 0)), (0, .ref b), (1, .ref fe), (2, .ref ob), (3, .ref ou), (4, .int (nI i))]) hx hb dL_law_1115 hl (by decide) rfl (fun ls hl => ?_)
  refine lv_aload_n hx hb dL_law_1117 rfl (lv_at hl 3 rfl) ?_
  refine lv_aload_n hx hb dL_law_1118 rfl (lv_at hl 1 rfl) ?_
  refine lv_iload hx hb dL_law_1119 (lv_at hl 5 rfl) ?_
  refine lv_iconst (v := nI 1) hx hb dL_law_1121 (by decide +kernel) ?_
  refine iaddN hx hb dL_law_1122 ?_
  refine va_sld hx hb hXs hbl hbA hS (vp_in_nI (n := i + 1) (by omega) (by omega)) dL_law_1123 ?_
  refine tS (st' := [.int (nI h), .ref ob]) (by rw [nI_clamp (by omega), e1]) ?_
  refine mcall (st1 := [.int (f (3 + h))]) (va_runV (As := [.int (nI h)]) (rest := []) ⟨hx, hb, hml, hown, hts⟩ (MX_currentOf_ok l G hM hR (by omega) h hh) (cwV 1 hts gL_law_X6_currentOf rfl rfl rfl (by decide +kernel) ⟨Nat.le_of_ble_eq_true rfl, Nat.le_of_ble_eq_true rfl⟩) (PJ.preV hE hJ (rs_recv hE.1 hM (P_pre hPb)) ⟨P_pre hPb, (D_pre hDb).weaken (fun _ _ _ _ => trivial)⟩) rfl rfl hl.1 rfl (lv_room (Nat.le_of_ble_eq_true rfl)) dL_law_1124 ⟨by show _ + 0 ≤ 601024; omega, by show _ + 0 ≤ 7293034; omega⟩) hS (fun q _ h => inW_D (D_pre hDb) q h) (fun q h => inW_D (D_pre hDb) q h) rfl (fun H1 locs1 hB9 hz9 hk1 hS => ?_)
  obtain ⟨MC', hM', hP1, hD1⟩ := hB9
  obtain ⟨hP3, hD3⟩ := jnF (w1 := MC') hPb hDb hk1 hP1 hD1
  generalize H1 = H at hP3 hS ⊢
  refine lv_istore (lv' := [(6, .int (f (3 + h))), (5, .int (nI 0)), (0, .ref b), (1, .ref fe), (2, .ref ob), (3, .ref ou), (4, .int (nI i))]) hx hb dL_law_1127 hl (by decide) rfl (fun ls hl => ?_)
  refine lv_aload_n hx hb dL_law_1129 rfl (lv_at hl 4 rfl) ?_
  refine pcall (st1 := [.int (nI 0)]) (va_runV (As := []) (rest := []) ⟨hx, hb, hml, hown, hts⟩ (MX_thrown l G hM') (cwV 0 hts gL_law_X6_thrown rfl rfl rfl (by decide +kernel) ⟨Nat.le_of_ble_eq_true rfl, Nat.le_of_ble_eq_true rfl⟩) (PC.preV hE (rs_recv hE.1 hM' (P_pre hP3)) (P_pre hP3)) rfl rfl hl.1 rfl (lv_room (Nat.le_of_ble_eq_true rfl)) dL_law_1130 ⟨by show _ + 0 ≤ 601024; omega, by show _ + 0 ≤ 7293034; omega⟩) rfl ?_
  refine lv_iload hx hb dL_law_1133 (lv_at hl 1 rfl) ?_
  refine icmp_eqN (tgt := 1140) hx hb (by decide) (by decide) dL_law_1135 (by decide) (fun _ => ?_) (fun h => absurd rfl h)
  refine lv_iload hx hb dL_law_1140 (lv_at hl 1 rfl) ?_
  refine if_neN (tgt := 1157) hx hb (by decide) dL_law_1142 (by decide) (fun h => absurd rfl h) (fun _ => ?_)
  refine lv_aload_n hx hb dL_law_1145 rfl (lv_at hl 5 rfl) ?_
  refine lv_iconst (v := nI 0) hx hb dL_law_1146 (by decide +kernel) ?_
  refine va_lald hx hb hKJ (P_pre (P_perm ((List.perm_append_comm).trans (by rw [List.append_assoc])) hP3)) 0 0 rfl rfl (vp_in_nI (n := 0) (N := 1) (by decide) (by decide)) dL_law_1147 ?_
  refine tS (st' := [.long (((f (3 + h))).toInt64)]) (by rw [nI_clamp (by decide), pk_uLs]) ?_
  refine lv_iload hx hb dL_law_1148 (lv_at hl 0 rfl) ?_
  refine lv_i2l (v := ((f (3 + h))).toInt64) hx hb dL_law_1150 rfl ?_
  refine lv_lcmpE hx hb dL_law_1151 ?_
  refine if_eqN (tgt := 1157) hx hb (by decide) dL_law_1152 (by decide) (fun _ => ?_) (fun h => absurd rfl h)
  refine lv_goto (tgt := 1491) hx hb dL_law_1157 (by decide) ?_
  refine W.widen (k := cells + 1) (n := slots + 6) (by omega) (by omega) ?_
  have hP4 : va_P G.1 vwCl ([(ou, .inl (cJ, 1, .inr (.inl (vp_updL lo 0 (((f (3 + h))).toInt64)))))] ++ (WC' ++ MC')) H := P_perm ((List.perm_append_comm).trans (by rw [List.append_assoc])) hP3
  have hD4 : va_D (AA s) ([(ou, .inl (cJ, 1, .inr (.inl (vp_updL lo 0 (((f (3 + h))).toInt64)))))] ++ (WC' ++ MC')) := D_perm ((List.perm_append_comm).trans (by rw [List.append_assoc])) hD3
  exact kk _ _ _ _ _ _ _ _ _ _ _ _ _ _ _ ⟨hX', PR_mono (by omega) hR, hM', hP4, hD4, hS, lv_sub hl [2, 3, 4, 5, 6] rfl⟩
set_option maxHeartbeats 4000000 in
set_option maxRecDepth 100000 in
theorem seg_currentOf_e1 {p : Program} {l : Launch} {e : Env} {s : State} {m : MethodId} {below : List Frame} {meth : Method} {c : Code} {b L : Nat} {xs : Nat → Int32} {G : eG} {cJ : ClassId} {Q : State → Prop} (hlt : l.stackTraces = false) (hL : LX p s m c b L xs G cJ) {fe ob ou B i : Nat} {f sf : Nat → Int32} {ff : Nat → Nat → Int32} {old sz len : Nat} {tx : Nat → Int32} {hsn thr : Int32} {lo : Nat → Int64} {WC MC : va_W} {H : Heap} {locs : List Loc} {ls : Array Slot} {cells slots : Nat} (hD : LD s G cJ b fe ob ou B f sf ff old sz len tx hsn thr lo WC MC H locs ls i) (hi : i + 4 ≤ L) (hLL : L ≤ 2048) (hB : B + 10000 < 700000000) (hc1 : cells + 1 ≤ 601024) (hs1 : slots + 6 ≤ 7293034) (hNo : ¬ (nI 0 ≤ (xs (i + 1)) ∧ (xs (i + 1)) ≤ nI 23))  (kk : ∀ (f sf : Nat → Int32) (ff : Nat → Nat → Int32) (old sz len : Nat) (tx : Nat → Int32) (hsn thr : Int32) (lo : Nat → Int64) (WC MC : va_W) (H : Heap) (locs : List Loc) (ls : Array Slot), LD s G cJ b fe ob ou (B + 10000) f sf ff old sz len tx hsn thr lo WC MC H locs ls i → W p l e room_1 s m #[Value.ref b] below meth c H locs (cells + 1) (slots + 6) Q (F0 m 1491 ls [])) : W p l e room_1 s m #[Value.ref b] below meth c H locs cells slots Q (F0 m 1104 ls []) := by
  obtain ⟨hx, hb, hml, hown, hts, hE, hJ0, hKJ, hXs, hbl⟩ := hL
  obtain ⟨hX, hR, hM, hP, hDD, hS, hl⟩ := hD
  have hbA : ¬ AA s b := Nat.not_le.mpr hbl
  have hJ : JX s H := hJ0.kept (fun a ha => hS.2.1 a ha (Nat.not_le.mpr ha))
  refine lv_aload_n hx hb dL_law_1104 rfl (lv_at hl 1 rfl) ?_
  refine lv_aload_n hx hb dL_law_1105 rfl (lv_at hl 0 rfl) ?_
  refine lv_iload hx hb dL_law_1106 (lv_at hl 4 rfl) ?_
  refine lv_iconst (v := nI 1) hx hb dL_law_1108 (by decide +kernel) ?_
  refine iaddN hx hb dL_law_1109 ?_
  refine va_sld hx hb hXs hbl hbA hS (vp_in_nI (n := i + 1) (by omega) (by omega)) dL_law_1110 ?_
  refine tS (st' := [.int (xs (i + 1)), .ref fe]) (by rw [nI_clamp (by omega)]) ?_
  refine lv_aload_n hx hb dL_law_1111 rfl (lv_at hl 3 rfl) ?_
  have hPw : va_P G.1 vwCl (WC ++ MC) H := P_pre (P_perm List.perm_append_comm hP)
  have hDw : va_D (AA s) (WC ++ MC) := D_pre (D_perm List.perm_append_comm hDD)
  refine mcall (st1 := [.int (nI 1)]) (vx_runSW (As := [.ref fe, .int (xs (i + 1)), .ref ou]) (rest := []) ⟨hx, hb, hml, hown, hts⟩ (CL_currentOf_e1 l hlt G cJ hX hR (by omega) (xs (i + 1)) hNo) (vx_cwSW 3 hts gL_law_L_currentOf rfl rfl rfl (by decide +kernel) ⟨Nat.le_of_ble_eq_true rfl, Nat.le_of_ble_eq_true rfl⟩) (PL.preS hE hJ hKJ ⟨P_pre hPw, (D_pre hDw).weaken (fun _ _ _ _ => trivial)⟩) rfl rfl hl.1 rfl (lv_room (Nat.le_of_ble_eq_true rfl)) dL_law_1112 ⟨by show cells + 1 ≤ 601024; omega, by show slots + 6 ≤ 7293034; omega⟩) hS (fun q _ h => (h : False).elim) (fun q h => (h : False).elim) rfl (fun H1 locs1 hB9 hz9 hk1 hS => ?_)
  have hP2 := P_kept hP (fun a ha => hk1 a ha (fun h => h))
  generalize H1 = H at hP2 hS ⊢
  replace hJ : JX s H := hJ0.kept (fun a ha => hS.2.1 a ha (Nat.not_le.mpr ha))
  have hPa : va_P G.1 vwCl (([(ou, .inl (cJ, 1, .inr (.inl lo)))] ++ WC) ++ MC) H := by rw [List.append_assoc]; exact hP2
  have hDa : va_D (AA s) (([(ou, .inl (cJ, 1, .inr (.inl lo)))] ++ WC) ++ MC) := by rw [List.append_assoc]; exact hDD
  have hPb : va_P G.1 vwCl (MC ++ ([(ou, .inl (cJ, 1, .inr (.inl lo)))] ++ WC)) H := P_perm List.perm_append_comm hPa
  have hDb : va_D (AA s) (MC ++ ([(ou, .inl (cJ, 1, .inr (.inl lo)))] ++ WC)) := D_perm List.perm_append_comm hDa
  refine lv_istore (lv' := [(5, .int (nI 1)), (0, .ref b), (1, .ref fe), (2, .ref ob), (3, .ref ou), (4, .int (nI i))]) hx hb dL_law_1115 hl (by decide) rfl (fun ls hl => ?_)
  refine lv_aload_n hx hb dL_law_1117 rfl (lv_at hl 3 rfl) ?_
  refine lv_aload_n hx hb dL_law_1118 rfl (lv_at hl 1 rfl) ?_
  refine lv_iload hx hb dL_law_1119 (lv_at hl 5 rfl) ?_
  refine lv_iconst (v := nI 1) hx hb dL_law_1121 (by decide +kernel) ?_
  refine iaddN hx hb dL_law_1122 ?_
  refine va_sld hx hb hXs hbl hbA hS (vp_in_nI (n := i + 1) (by omega) (by omega)) dL_law_1123 ?_
  refine tS (st' := [.int (xs (i + 1)), .ref ob]) (by rw [nI_clamp (by omega)]) ?_
  refine mcall (st1 := [.int (nI 0)]) (va_runV (As := [.int (xs (i + 1))]) (rest := []) ⟨hx, hb, hml, hown, hts⟩ (MX_currentOf_e1 l G hM hR (by omega) (xs (i + 1)) hNo) (cwV 1 hts gL_law_X6_currentOf rfl rfl rfl (by decide +kernel) ⟨Nat.le_of_ble_eq_true rfl, Nat.le_of_ble_eq_true rfl⟩) (PJ.preV hE hJ (rs_recv hE.1 hM (P_pre hPb)) ⟨P_pre hPb, (D_pre hDb).weaken (fun _ _ _ _ => trivial)⟩) rfl rfl hl.1 rfl (lv_room (Nat.le_of_ble_eq_true rfl)) dL_law_1124 ⟨by show _ + 0 ≤ 601024; omega, by show _ + 0 ≤ 7293034; omega⟩) hS (fun q _ h => inW_D (D_pre hDb) q h) (fun q h => inW_D (D_pre hDb) q h) rfl (fun H1 locs1 hB9 hz9 hk1 hS => ?_)
  obtain ⟨MC', hM', hP1, hD1⟩ := hB9
  obtain ⟨hP3, hD3⟩ := jnF (w1 := MC') hPb hDb hk1 hP1 hD1
  generalize H1 = H at hP3 hS ⊢
  refine lv_istore (lv' := [(6, .int (nI 0)), (5, .int (nI 1)), (0, .ref b), (1, .ref fe), (2, .ref ob), (3, .ref ou), (4, .int (nI i))]) hx hb dL_law_1127 hl (by decide) rfl (fun ls hl => ?_)
  refine lv_aload_n hx hb dL_law_1129 rfl (lv_at hl 4 rfl) ?_
  refine pcall (st1 := [.int (nI 1)]) (va_runV (As := []) (rest := []) ⟨hx, hb, hml, hown, hts⟩ (MX_thrown l G hM') (cwV 0 hts gL_law_X6_thrown rfl rfl rfl (by decide +kernel) ⟨Nat.le_of_ble_eq_true rfl, Nat.le_of_ble_eq_true rfl⟩) (PC.preV hE (rs_recv hE.1 hM' (P_pre hP3)) (P_pre hP3)) rfl rfl hl.1 rfl (lv_room (Nat.le_of_ble_eq_true rfl)) dL_law_1130 ⟨by show _ + 0 ≤ 601024; omega, by show _ + 0 ≤ 7293034; omega⟩) rfl ?_
  refine lv_iload hx hb dL_law_1133 (lv_at hl 1 rfl) ?_
  refine icmp_eqN (tgt := 1140) hx hb (by decide) (by decide) dL_law_1135 (by decide) (fun _ => ?_) (fun h => absurd rfl h)
  refine lv_iload hx hb dL_law_1140 (lv_at hl 1 rfl) ?_
  refine if_neN (tgt := 1157) hx hb (by decide) dL_law_1142 (by decide) (fun _ => ?_) (fun h => absurd h (by decide))
  refine lv_goto (tgt := 1491) hx hb dL_law_1157 (by decide) ?_
  refine W.widen (k := cells + 1) (n := slots + 6) (by omega) (by omega) ?_
  have hP4 : va_P G.1 vwCl ([(ou, .inl (cJ, 1, .inr (.inl lo)))] ++ (WC ++ MC')) H := P_perm ((List.perm_append_comm).trans (by rw [List.append_assoc])) hP3
  have hD4 : va_D (AA s) ([(ou, .inl (cJ, 1, .inr (.inl lo)))] ++ (WC ++ MC')) := D_perm ((List.perm_append_comm).trans (by rw [List.append_assoc])) hD3
  exact kk _ _ _ _ _ _ _ _ _ _ _ _ _ _ _ ⟨hX, PR_mono (by omega) hR, hM', hP4, hD4, hS, lv_sub hl [2, 3, 4, 5, 6] rfl⟩
set_option maxHeartbeats 4000000 in
set_option maxRecDepth 100000 in
theorem seg_setting_ok {p : Program} {l : Launch} {e : Env} {s : State} {m : MethodId} {below : List Frame} {meth : Method} {c : Code} {b L : Nat} {xs : Nat → Int32} {G : eG} {cJ : ClassId} {Q : State → Prop} (hlt : l.stackTraces = false) (hL : LX p s m c b L xs G cJ) {fe ob ou B i : Nat} {f sf : Nat → Int32} {ff : Nat → Nat → Int32} {old sz len : Nat} {tx : Nat → Int32} {hsn thr : Int32} {lo : Nat → Int64} {WC MC : va_W} {H : Heap} {locs : List Loc} {ls : Array Slot} {cells slots : Nat} (hD : LD s G cJ b fe ob ou B f sf ff old sz len tx hsn thr lo WC MC H locs ls i) (hi : i + 4 ≤ L) (hLL : L ≤ 2048) (hB : B + 10000 < 700000000) (hc1 : cells + 1 ≤ 601024) (hs1 : slots + 6 ≤ 7293034) (s0 : Nat) (hs3 : s0 < 3) (e1 : xs (i + 1) = nI s0) (kk : ∀ (f sf : Nat → Int32) (ff : Nat → Nat → Int32) (old sz len : Nat) (tx : Nat → Int32) (hsn thr : Int32) (lo : Nat → Int64) (WC MC : va_W) (H : Heap) (locs : List Loc) (ls : Array Slot), LD s G cJ b fe ob ou (B + 10000) f sf ff old sz len tx hsn thr lo WC MC H locs ls i → W p l e room_1 s m #[Value.ref b] below meth c H locs (cells + 1) (slots + 6) Q (F0 m 1491 ls [])) : W p l e room_1 s m #[Value.ref b] below meth c H locs cells slots Q (F0 m 1160 ls []) := by
  obtain ⟨hx, hb, hml, hown, hts, hE, hJ0, hKJ, hXs, hbl⟩ := hL
  obtain ⟨hX, hR, hM, hP, hDD, hS, hl⟩ := hD
  have hbA : ¬ AA s b := Nat.not_le.mpr hbl
  have hJ : JX s H := hJ0.kept (fun a ha => hS.2.1 a ha (Nat.not_le.mpr ha))
  refine lv_aload_n hx hb dL_law_1160 rfl (lv_at hl 1 rfl) ?_
  refine lv_aload_n hx hb dL_law_1161 rfl (lv_at hl 0 rfl) ?_
  refine lv_iload hx hb dL_law_1162 (lv_at hl 4 rfl) ?_
  refine lv_iconst (v := nI 1) hx hb dL_law_1164 (by decide +kernel) ?_
  refine iaddN hx hb dL_law_1165 ?_
  refine va_sld hx hb hXs hbl hbA hS (vp_in_nI (n := i + 1) (by omega) (by omega)) dL_law_1166 ?_
  refine tS (st' := [.int (nI s0), .ref fe]) (by rw [nI_clamp (by omega), e1]) ?_
  refine lv_aload_n hx hb dL_law_1167 rfl (lv_at hl 3 rfl) ?_
  have hPa : va_P G.1 vwCl (([(ou, .inl (cJ, 1, .inr (.inl lo)))] ++ WC) ++ MC) H := by rw [List.append_assoc]; exact hP
  have hDa : va_D (AA s) (([(ou, .inl (cJ, 1, .inr (.inl lo)))] ++ WC) ++ MC) := by rw [List.append_assoc]; exact hDD
  refine mcall (st1 := [.int (nI 0)]) (vx_runSW (As := [.ref fe, .int (nI s0), .ref ou]) (rest := []) ⟨hx, hb, hml, hown, hts⟩ (CL_setting_ok l G cJ hX hR (by omega) s0 hs3) (vx_cwSW 3 hts gL_law_L_setting rfl rfl rfl (by decide +kernel) ⟨Nat.le_of_ble_eq_true rfl, Nat.le_of_ble_eq_true rfl⟩) (PL.preS hE hJ hKJ ⟨P_pre hPa, (D_pre hDa).weaken (fun _ _ _ _ => trivial)⟩) rfl rfl hl.1 rfl (lv_room (Nat.le_of_ble_eq_true rfl)) dL_law_1168 ⟨by show cells + 0 ≤ 601024; omega, by show slots + 0 ≤ 7293034; omega⟩) hS (fun q _ h => inW_D (D_pre hDa) q h) (fun q h => inW_D (D_pre hDa) q h) rfl (fun H1 locs1 hB9 hz9 hk1 hS => ?_)
  obtain ⟨WC', hX', hP1, hD1⟩ := hB9
  obtain ⟨hP2, hD2⟩ := jnF (w1 := [(ou, .inl (cJ, 1, .inr (.inl (vp_updL lo 0 (((f s0)).toInt64)))))] ++ WC') hPa hDa hk1 hP1 hD1
  generalize H1 = H at hP2 hS ⊢
  replace hJ : JX s H := hJ0.kept (fun a ha => hS.2.1 a ha (Nat.not_le.mpr ha))
  have hPb : va_P G.1 vwCl (MC ++ ([(ou, .inl (cJ, 1, .inr (.inl (vp_updL lo 0 (((f s0)).toInt64)))))] ++ WC')) H := P_perm List.perm_append_comm hP2
  have hDb : va_D (AA s) (MC ++ ([(ou, .inl (cJ, 1, .inr (.inl (vp_updL lo 0 (((f s0)).toInt64)))))] ++ WC')) := D_perm List.perm_append_comm hD2
  refine lv_istore (lv' := [(5, .int (nI 0)), (0, .ref b), (1, .ref fe), (2, .ref ob), (3, .ref ou), (4, .int (nI i))]) hx hb dL_law_1171 hl (by decide) rfl (fun ls hl => ?_)
  refine lv_aload_n hx hb dL_law_1173 rfl (lv_at hl 3 rfl) ?_
  refine lv_aload_n hx hb dL_law_1174 rfl (lv_at hl 1 rfl) ?_
  refine lv_iload hx hb dL_law_1175 (lv_at hl 5 rfl) ?_
  refine lv_iconst (v := nI 1) hx hb dL_law_1177 (by decide +kernel) ?_
  refine iaddN hx hb dL_law_1178 ?_
  refine va_sld hx hb hXs hbl hbA hS (vp_in_nI (n := i + 1) (by omega) (by omega)) dL_law_1179 ?_
  refine tS (st' := [.int (nI s0), .ref ob]) (by rw [nI_clamp (by omega), e1]) ?_
  refine mcall (st1 := [.int (f s0)]) (va_runV (As := [.int (nI s0)]) (rest := []) ⟨hx, hb, hml, hown, hts⟩ (MX_setting_ok l G hM hR (by omega) s0 hs3) (cwV 1 hts gL_law_X6_setting rfl rfl rfl (by decide +kernel) ⟨Nat.le_of_ble_eq_true rfl, Nat.le_of_ble_eq_true rfl⟩) (PJ.preV hE hJ (rs_recv hE.1 hM (P_pre hPb)) ⟨P_pre hPb, (D_pre hDb).weaken (fun _ _ _ _ => trivial)⟩) rfl rfl hl.1 rfl (lv_room (Nat.le_of_ble_eq_true rfl)) dL_law_1180 ⟨by show _ + 0 ≤ 601024; omega, by show _ + 0 ≤ 7293034; omega⟩) hS (fun q _ h => inW_D (D_pre hDb) q h) (fun q h => inW_D (D_pre hDb) q h) rfl (fun H1 locs1 hB9 hz9 hk1 hS => ?_)
  obtain ⟨MC', hM', hP1, hD1⟩ := hB9
  obtain ⟨hP3, hD3⟩ := jnF (w1 := MC') hPb hDb hk1 hP1 hD1
  generalize H1 = H at hP3 hS ⊢
  refine lv_istore (lv' := [(6, .int (f s0)), (5, .int (nI 0)), (0, .ref b), (1, .ref fe), (2, .ref ob), (3, .ref ou), (4, .int (nI i))]) hx hb dL_law_1183 hl (by decide) rfl (fun ls hl => ?_)
  refine lv_aload_n hx hb dL_law_1185 rfl (lv_at hl 4 rfl) ?_
  refine pcall (st1 := [.int (nI 0)]) (va_runV (As := []) (rest := []) ⟨hx, hb, hml, hown, hts⟩ (MX_thrown l G hM') (cwV 0 hts gL_law_X6_thrown rfl rfl rfl (by decide +kernel) ⟨Nat.le_of_ble_eq_true rfl, Nat.le_of_ble_eq_true rfl⟩) (PC.preV hE (rs_recv hE.1 hM' (P_pre hP3)) (P_pre hP3)) rfl rfl hl.1 rfl (lv_room (Nat.le_of_ble_eq_true rfl)) dL_law_1186 ⟨by show _ + 0 ≤ 601024; omega, by show _ + 0 ≤ 7293034; omega⟩) rfl ?_
  refine lv_iload hx hb dL_law_1189 (lv_at hl 1 rfl) ?_
  refine icmp_eqN (tgt := 1196) hx hb (by decide) (by decide) dL_law_1191 (by decide) (fun _ => ?_) (fun h => absurd rfl h)
  refine lv_iload hx hb dL_law_1196 (lv_at hl 1 rfl) ?_
  refine if_neN (tgt := 1213) hx hb (by decide) dL_law_1198 (by decide) (fun h => absurd rfl h) (fun _ => ?_)
  refine lv_aload_n hx hb dL_law_1201 rfl (lv_at hl 5 rfl) ?_
  refine lv_iconst (v := nI 0) hx hb dL_law_1202 (by decide +kernel) ?_
  refine va_lald hx hb hKJ (P_pre (P_perm ((List.perm_append_comm).trans (by rw [List.append_assoc])) hP3)) 0 0 rfl rfl (vp_in_nI (n := 0) (N := 1) (by decide) (by decide)) dL_law_1203 ?_
  refine tS (st' := [.long (((f s0)).toInt64)]) (by rw [nI_clamp (by decide), pk_uLs]) ?_
  refine lv_iload hx hb dL_law_1204 (lv_at hl 0 rfl) ?_
  refine lv_i2l (v := ((f s0)).toInt64) hx hb dL_law_1206 rfl ?_
  refine lv_lcmpE hx hb dL_law_1207 ?_
  refine if_eqN (tgt := 1213) hx hb (by decide) dL_law_1208 (by decide) (fun _ => ?_) (fun h => absurd rfl h)
  refine lv_goto (tgt := 1491) hx hb dL_law_1213 (by decide) ?_
  refine W.widen (k := cells + 1) (n := slots + 6) (by omega) (by omega) ?_
  have hP4 : va_P G.1 vwCl ([(ou, .inl (cJ, 1, .inr (.inl (vp_updL lo 0 (((f s0)).toInt64)))))] ++ (WC' ++ MC')) H := P_perm ((List.perm_append_comm).trans (by rw [List.append_assoc])) hP3
  have hD4 : va_D (AA s) ([(ou, .inl (cJ, 1, .inr (.inl (vp_updL lo 0 (((f s0)).toInt64)))))] ++ (WC' ++ MC')) := D_perm ((List.perm_append_comm).trans (by rw [List.append_assoc])) hD3
  exact kk _ _ _ _ _ _ _ _ _ _ _ _ _ _ _ ⟨hX', PR_mono (by omega) hR, hM', hP4, hD4, hS, lv_sub hl [2, 3, 4, 5, 6] rfl⟩
set_option maxHeartbeats 4000000 in
set_option maxRecDepth 100000 in
theorem seg_setting_e1 {p : Program} {l : Launch} {e : Env} {s : State} {m : MethodId} {below : List Frame} {meth : Method} {c : Code} {b L : Nat} {xs : Nat → Int32} {G : eG} {cJ : ClassId} {Q : State → Prop} (hlt : l.stackTraces = false) (hL : LX p s m c b L xs G cJ) {fe ob ou B i : Nat} {f sf : Nat → Int32} {ff : Nat → Nat → Int32} {old sz len : Nat} {tx : Nat → Int32} {hsn thr : Int32} {lo : Nat → Int64} {WC MC : va_W} {H : Heap} {locs : List Loc} {ls : Array Slot} {cells slots : Nat} (hD : LD s G cJ b fe ob ou B f sf ff old sz len tx hsn thr lo WC MC H locs ls i) (hi : i + 4 ≤ L) (hLL : L ≤ 2048) (hB : B + 10000 < 700000000) (hc1 : cells + 1 ≤ 601024) (hs1 : slots + 6 ≤ 7293034) (hNo : ¬ (nI 0 ≤ (xs (i + 1)) ∧ (xs (i + 1)) ≤ nI 2))  (kk : ∀ (f sf : Nat → Int32) (ff : Nat → Nat → Int32) (old sz len : Nat) (tx : Nat → Int32) (hsn thr : Int32) (lo : Nat → Int64) (WC MC : va_W) (H : Heap) (locs : List Loc) (ls : Array Slot), LD s G cJ b fe ob ou (B + 10000) f sf ff old sz len tx hsn thr lo WC MC H locs ls i → W p l e room_1 s m #[Value.ref b] below meth c H locs (cells + 1) (slots + 6) Q (F0 m 1491 ls [])) : W p l e room_1 s m #[Value.ref b] below meth c H locs cells slots Q (F0 m 1160 ls []) := by
  obtain ⟨hx, hb, hml, hown, hts, hE, hJ0, hKJ, hXs, hbl⟩ := hL
  obtain ⟨hX, hR, hM, hP, hDD, hS, hl⟩ := hD
  have hbA : ¬ AA s b := Nat.not_le.mpr hbl
  have hJ : JX s H := hJ0.kept (fun a ha => hS.2.1 a ha (Nat.not_le.mpr ha))
  refine lv_aload_n hx hb dL_law_1160 rfl (lv_at hl 1 rfl) ?_
  refine lv_aload_n hx hb dL_law_1161 rfl (lv_at hl 0 rfl) ?_
  refine lv_iload hx hb dL_law_1162 (lv_at hl 4 rfl) ?_
  refine lv_iconst (v := nI 1) hx hb dL_law_1164 (by decide +kernel) ?_
  refine iaddN hx hb dL_law_1165 ?_
  refine va_sld hx hb hXs hbl hbA hS (vp_in_nI (n := i + 1) (by omega) (by omega)) dL_law_1166 ?_
  refine tS (st' := [.int (xs (i + 1)), .ref fe]) (by rw [nI_clamp (by omega)]) ?_
  refine lv_aload_n hx hb dL_law_1167 rfl (lv_at hl 3 rfl) ?_
  have hPw : va_P G.1 vwCl (WC ++ MC) H := P_pre (P_perm List.perm_append_comm hP)
  have hDw : va_D (AA s) (WC ++ MC) := D_pre (D_perm List.perm_append_comm hDD)
  refine mcall (st1 := [.int (nI 1)]) (vx_runSW (As := [.ref fe, .int (xs (i + 1)), .ref ou]) (rest := []) ⟨hx, hb, hml, hown, hts⟩ (CL_setting_e1 l hlt G cJ hX hR (by omega) (xs (i + 1)) hNo) (vx_cwSW 3 hts gL_law_L_setting rfl rfl rfl (by decide +kernel) ⟨Nat.le_of_ble_eq_true rfl, Nat.le_of_ble_eq_true rfl⟩) (PL.preS hE hJ hKJ ⟨P_pre hPw, (D_pre hDw).weaken (fun _ _ _ _ => trivial)⟩) rfl rfl hl.1 rfl (lv_room (Nat.le_of_ble_eq_true rfl)) dL_law_1168 ⟨by show cells + 1 ≤ 601024; omega, by show slots + 6 ≤ 7293034; omega⟩) hS (fun q _ h => (h : False).elim) (fun q h => (h : False).elim) rfl (fun H1 locs1 hB9 hz9 hk1 hS => ?_)
  have hP2 := P_kept hP (fun a ha => hk1 a ha (fun h => h))
  generalize H1 = H at hP2 hS ⊢
  replace hJ : JX s H := hJ0.kept (fun a ha => hS.2.1 a ha (Nat.not_le.mpr ha))
  have hPa : va_P G.1 vwCl (([(ou, .inl (cJ, 1, .inr (.inl lo)))] ++ WC) ++ MC) H := by rw [List.append_assoc]; exact hP2
  have hDa : va_D (AA s) (([(ou, .inl (cJ, 1, .inr (.inl lo)))] ++ WC) ++ MC) := by rw [List.append_assoc]; exact hDD
  have hPb : va_P G.1 vwCl (MC ++ ([(ou, .inl (cJ, 1, .inr (.inl lo)))] ++ WC)) H := P_perm List.perm_append_comm hPa
  have hDb : va_D (AA s) (MC ++ ([(ou, .inl (cJ, 1, .inr (.inl lo)))] ++ WC)) := D_perm List.perm_append_comm hDa
  refine lv_istore (lv' := [(5, .int (nI 1)), (0, .ref b), (1, .ref fe), (2, .ref ob), (3, .ref ou), (4, .int (nI i))]) hx hb dL_law_1171 hl (by decide) rfl (fun ls hl => ?_)
  refine lv_aload_n hx hb dL_law_1173 rfl (lv_at hl 3 rfl) ?_
  refine lv_aload_n hx hb dL_law_1174 rfl (lv_at hl 1 rfl) ?_
  refine lv_iload hx hb dL_law_1175 (lv_at hl 5 rfl) ?_
  refine lv_iconst (v := nI 1) hx hb dL_law_1177 (by decide +kernel) ?_
  refine iaddN hx hb dL_law_1178 ?_
  refine va_sld hx hb hXs hbl hbA hS (vp_in_nI (n := i + 1) (by omega) (by omega)) dL_law_1179 ?_
  refine tS (st' := [.int (xs (i + 1)), .ref ob]) (by rw [nI_clamp (by omega)]) ?_
  refine mcall (st1 := [.int (nI 0)]) (va_runV (As := [.int (xs (i + 1))]) (rest := []) ⟨hx, hb, hml, hown, hts⟩ (MX_setting_e1 l G hM hR (by omega) (xs (i + 1)) hNo) (cwV 1 hts gL_law_X6_setting rfl rfl rfl (by decide +kernel) ⟨Nat.le_of_ble_eq_true rfl, Nat.le_of_ble_eq_true rfl⟩) (PJ.preV hE hJ (rs_recv hE.1 hM (P_pre hPb)) ⟨P_pre hPb, (D_pre hDb).weaken (fun _ _ _ _ => trivial)⟩) rfl rfl hl.1 rfl (lv_room (Nat.le_of_ble_eq_true rfl)) dL_law_1180 ⟨by show _ + 0 ≤ 601024; omega, by show _ + 0 ≤ 7293034; omega⟩) hS (fun q _ h => inW_D (D_pre hDb) q h) (fun q h => inW_D (D_pre hDb) q h) rfl (fun H1 locs1 hB9 hz9 hk1 hS => ?_)
  obtain ⟨MC', hM', hP1, hD1⟩ := hB9
  obtain ⟨hP3, hD3⟩ := jnF (w1 := MC') hPb hDb hk1 hP1 hD1
  generalize H1 = H at hP3 hS ⊢
  refine lv_istore (lv' := [(6, .int (nI 0)), (5, .int (nI 1)), (0, .ref b), (1, .ref fe), (2, .ref ob), (3, .ref ou), (4, .int (nI i))]) hx hb dL_law_1183 hl (by decide) rfl (fun ls hl => ?_)
  refine lv_aload_n hx hb dL_law_1185 rfl (lv_at hl 4 rfl) ?_
  refine pcall (st1 := [.int (nI 1)]) (va_runV (As := []) (rest := []) ⟨hx, hb, hml, hown, hts⟩ (MX_thrown l G hM') (cwV 0 hts gL_law_X6_thrown rfl rfl rfl (by decide +kernel) ⟨Nat.le_of_ble_eq_true rfl, Nat.le_of_ble_eq_true rfl⟩) (PC.preV hE (rs_recv hE.1 hM' (P_pre hP3)) (P_pre hP3)) rfl rfl hl.1 rfl (lv_room (Nat.le_of_ble_eq_true rfl)) dL_law_1186 ⟨by show _ + 0 ≤ 601024; omega, by show _ + 0 ≤ 7293034; omega⟩) rfl ?_
  refine lv_iload hx hb dL_law_1189 (lv_at hl 1 rfl) ?_
  refine icmp_eqN (tgt := 1196) hx hb (by decide) (by decide) dL_law_1191 (by decide) (fun _ => ?_) (fun h => absurd rfl h)
  refine lv_iload hx hb dL_law_1196 (lv_at hl 1 rfl) ?_
  refine if_neN (tgt := 1213) hx hb (by decide) dL_law_1198 (by decide) (fun _ => ?_) (fun h => absurd h (by decide))
  refine lv_goto (tgt := 1491) hx hb dL_law_1213 (by decide) ?_
  refine W.widen (k := cells + 1) (n := slots + 6) (by omega) (by omega) ?_
  have hP4 : va_P G.1 vwCl ([(ou, .inl (cJ, 1, .inr (.inl lo)))] ++ (WC ++ MC')) H := P_perm ((List.perm_append_comm).trans (by rw [List.append_assoc])) hP3
  have hD4 : va_D (AA s) ([(ou, .inl (cJ, 1, .inr (.inl lo)))] ++ (WC ++ MC')) := D_perm ((List.perm_append_comm).trans (by rw [List.append_assoc])) hD3
  exact kk _ _ _ _ _ _ _ _ _ _ _ _ _ _ _ ⟨hX, PR_mono (by omega) hR, hM', hP4, hD4, hS, lv_sub hl [2, 3, 4, 5, 6] rfl⟩
set_option maxHeartbeats 4000000 in
set_option maxRecDepth 100000 in
theorem seg_why {p : Program} {l : Launch} {e : Env} {s : State} {m : MethodId} {below : List Frame} {meth : Method} {c : Code} {b L : Nat} {xs : Nat → Int32} {G : eG} {cJ : ClassId} {Q : State → Prop} (hlt : l.stackTraces = false) (hL : LX p s m c b L xs G cJ) {fe ob ou B i : Nat} {f sf : Nat → Int32} {ff : Nat → Nat → Int32} {old sz len : Nat} {tx : Nat → Int32} {hsn thr : Int32} {lo : Nat → Int64} {WC MC : va_W} {H : Heap} {locs : List Loc} {ls : Array Slot} {cells slots : Nat} (hD : LD s G cJ b fe ob ou B f sf ff old sz len tx hsn thr lo WC MC H locs ls i) (hi : i + 4 ≤ L) (hLL : L ≤ 2048) (hB : B + 10000 < 700000000) (hc1 : cells + 1 ≤ 601024) (hs1 : slots + 6 ≤ 7293034)   (kk : ∀ (f sf : Nat → Int32) (ff : Nat → Nat → Int32) (old sz len : Nat) (tx : Nat → Int32) (hsn thr : Int32) (lo : Nat → Int64) (WC MC : va_W) (H : Heap) (locs : List Loc) (ls : Array Slot), LD s G cJ b fe ob ou (B + 10000) f sf ff old sz len tx hsn thr lo WC MC H locs ls i → W p l e room_1 s m #[Value.ref b] below meth c H locs (cells + 1) (slots + 6) Q (F0 m 1491 ls [])) : W p l e room_1 s m #[Value.ref b] below meth c H locs cells slots Q (F0 m 1216 ls []) := by
  obtain ⟨hx, hb, hml, hown, hts, hE, hJ0, hKJ, hXs, hbl⟩ := hL
  obtain ⟨hX, hR, hM, hP, hDD, hS, hl⟩ := hD
  have hbA : ¬ AA s b := Nat.not_le.mpr hbl
  have hJ : JX s H := hJ0.kept (fun a ha => hS.2.1 a ha (Nat.not_le.mpr ha))
  refine lv_aload_n hx hb dL_law_1216 rfl (lv_at hl 1 rfl) ?_
  have hPa : va_P G.1 vwCl (WC ++ (MC ++ [(ou, .inl (cJ, 1, .inr (.inl lo)))])) H := P_perm ((List.perm_append_comm).trans (by rw [List.append_assoc])) hP
  have hDa : va_D (AA s) (WC ++ (MC ++ [(ou, .inl (cJ, 1, .inr (.inl lo)))])) := D_perm ((List.perm_append_comm).trans (by rw [List.append_assoc])) hDD
  refine mcall (st1 := [.int (fRsn f)]) (va_runV (As := []) (rest := []) ⟨hx, hb, hml, hown, hts⟩ (CX_why l G hX hR (by omega) ) (cwV 0 hts gL_law_X5_why rfl rfl rfl (by decide +kernel) ⟨Nat.le_of_ble_eq_true rfl, Nat.le_of_ble_eq_true rfl⟩) (PJ.preV hE hJ (xs_recv hE.1 hX (P_pre hPa)) ⟨P_pre hPa, (D_pre hDa).weaken (fun _ _ _ _ => trivial)⟩) rfl rfl hl.1 rfl (lv_room (Nat.le_of_ble_eq_true rfl)) dL_law_1217 ⟨by show cells + 0 ≤ 601024; omega, by show slots + 0 ≤ 7293034; omega⟩) hS (fun q _ h => inW_D (D_pre hDa) q h) (fun q h => inW_D (D_pre hDa) q h) rfl (fun H1 locs1 hB9 hz9 hk1 hS => ?_)
  obtain ⟨WC', hX', hP1, hD1⟩ := hB9
  obtain ⟨hP2, hD2⟩ := jnF (w1 := WC') hPa hDa hk1 hP1 hD1
  generalize H1 = H at hP2 hS ⊢
  replace hJ : JX s H := hJ0.kept (fun a ha => hS.2.1 a ha (Nat.not_le.mpr ha))
  have hPb : va_P G.1 vwCl (MC ++ ([(ou, .inl (cJ, 1, .inr (.inl lo)))] ++ WC')) H := P_perm ((List.perm_append_comm).trans (by rw [List.append_assoc])) hP2
  have hDb : va_D (AA s) (MC ++ ([(ou, .inl (cJ, 1, .inr (.inl lo)))] ++ WC')) := D_perm ((List.perm_append_comm).trans (by rw [List.append_assoc])) hD2
  refine lv_aload_n hx hb dL_law_1220 rfl (lv_at hl 2 rfl) ?_
  refine mcall (st1 := [.int (fRsn f), .int (fRsn f)]) (va_runV (As := []) (rest := [.int (fRsn f)]) ⟨hx, hb, hml, hown, hts⟩ (MX_why_ok l G hM hR (by omega) ) (cwV 0 hts gL_law_X6_why rfl rfl rfl (by decide +kernel) ⟨Nat.le_of_ble_eq_true rfl, Nat.le_of_ble_eq_true rfl⟩) (PJ.preV hE hJ (rs_recv hE.1 hM (P_pre hPb)) ⟨P_pre hPb, (D_pre hDb).weaken (fun _ _ _ _ => trivial)⟩) rfl rfl hl.1 rfl (lv_room (Nat.le_of_ble_eq_true rfl)) dL_law_1221 ⟨by show _ + 0 ≤ 601024; omega, by show _ + 0 ≤ 7293034; omega⟩) hS (fun q _ h => inW_D (D_pre hDb) q h) (fun q h => inW_D (D_pre hDb) q h) rfl (fun H1 locs1 hB9 hz9 hk1 hS => ?_)
  obtain ⟨MC', hM', hP1, hD1⟩ := hB9
  obtain ⟨hP3, hD3⟩ := jnF (w1 := MC') hPb hDb hk1 hP1 hD1
  generalize H1 = H at hP3 hS ⊢
  refine lv_icmp_eq (tgt := 1491) hx hb dL_law_1224 (by decide) (fun _ => ?_) (fun h => absurd rfl h)
  refine W.widen (k := cells + 1) (n := slots + 6) (by omega) (by omega) ?_
  have hP4 : va_P G.1 vwCl ([(ou, .inl (cJ, 1, .inr (.inl lo)))] ++ (WC' ++ MC')) H := P_perm ((List.perm_append_comm).trans (by rw [List.append_assoc])) hP3
  have hD4 : va_D (AA s) ([(ou, .inl (cJ, 1, .inr (.inl lo)))] ++ (WC' ++ MC')) := D_perm ((List.perm_append_comm).trans (by rw [List.append_assoc])) hD3
  exact kk _ _ _ _ _ _ _ _ _ _ _ _ _ _ _ ⟨hX', PR_mono (by omega) hR, hM', hP4, hD4, hS, lv_sub hl [0, 1, 2, 3, 4] rfl⟩
set_option maxHeartbeats 4000000 in
set_option maxRecDepth 100000 in
theorem seg_weakest_ok {p : Program} {l : Launch} {e : Env} {s : State} {m : MethodId} {below : List Frame} {meth : Method} {c : Code} {b L : Nat} {xs : Nat → Int32} {G : eG} {cJ : ClassId} {Q : State → Prop} (hlt : l.stackTraces = false) (hL : LX p s m c b L xs G cJ) {fe ob ou B i : Nat} {f sf : Nat → Int32} {ff : Nat → Nat → Int32} {old sz len : Nat} {tx : Nat → Int32} {hsn thr : Int32} {lo : Nat → Int64} {WC MC : va_W} {H : Heap} {locs : List Loc} {ls : Array Slot} {cells slots : Nat} (hD : LD s G cJ b fe ob ou B f sf ff old sz len tx hsn thr lo WC MC H locs ls i) (hi : i + 4 ≤ L) (hLL : L ≤ 2048) (hB : B + 10000 < 700000000) (hc1 : cells + 1 ≤ 601024) (hs1 : slots + 6 ≤ 7293034)   (kk : ∀ (f sf : Nat → Int32) (ff : Nat → Nat → Int32) (old sz len : Nat) (tx : Nat → Int32) (hsn thr : Int32) (lo : Nat → Int64) (WC MC : va_W) (H : Heap) (locs : List Loc) (ls : Array Slot), LD s G cJ b fe ob ou (B + 10000) f sf ff old sz len tx hsn thr lo WC MC H locs ls i → W p l e room_1 s m #[Value.ref b] below meth c H locs (cells + 1) (slots + 6) Q (F0 m 1491 ls [])) : W p l e room_1 s m #[Value.ref b] below meth c H locs cells slots Q (F0 m 1229 ls []) := by
  obtain ⟨hx, hb, hml, hown, hts, hE, hJ0, hKJ, hXs, hbl⟩ := hL
  obtain ⟨hX, hR, hM, hP, hDD, hS, hl⟩ := hD
  have hbA : ¬ AA s b := Nat.not_le.mpr hbl
  have hJ : JX s H := hJ0.kept (fun a ha => hS.2.1 a ha (Nat.not_le.mpr ha))
  refine lv_aload_n hx hb dL_law_1229 rfl (lv_at hl 1 rfl) ?_
  have hPa : va_P G.1 vwCl (WC ++ (MC ++ [(ou, .inl (cJ, 1, .inr (.inl lo)))])) H := P_perm ((List.perm_append_comm).trans (by rw [List.append_assoc])) hP
  have hDa : va_D (AA s) (WC ++ (MC ++ [(ou, .inl (cJ, 1, .inr (.inl lo)))])) := D_perm ((List.perm_append_comm).trans (by rw [List.append_assoc])) hDD
  refine mcall (st1 := [.int (nI (wkN f 20))]) (va_runV (As := []) (rest := []) ⟨hx, hb, hml, hown, hts⟩ (CX_weakest_ok l G hX hR (by omega) ) (cwV 0 hts gL_law_X5_weakest rfl rfl rfl (by decide +kernel) ⟨Nat.le_of_ble_eq_true rfl, Nat.le_of_ble_eq_true rfl⟩) (PJ.preV hE hJ (xs_recv hE.1 hX (P_pre hPa)) ⟨P_pre hPa, (D_pre hDa).weaken (fun _ _ _ _ => trivial)⟩) rfl rfl hl.1 rfl (lv_room (Nat.le_of_ble_eq_true rfl)) dL_law_1230 ⟨by show cells + 0 ≤ 601024; omega, by show slots + 0 ≤ 7293034; omega⟩) hS (fun q _ h => inW_D (D_pre hDa) q h) (fun q h => inW_D (D_pre hDa) q h) rfl (fun H1 locs1 hB9 hz9 hk1 hS => ?_)
  obtain ⟨WC', hX', hP1, hD1⟩ := hB9
  obtain ⟨hP2, hD2⟩ := jnF (w1 := WC') hPa hDa hk1 hP1 hD1
  generalize H1 = H at hP2 hS ⊢
  replace hJ : JX s H := hJ0.kept (fun a ha => hS.2.1 a ha (Nat.not_le.mpr ha))
  have hPb : va_P G.1 vwCl (MC ++ ([(ou, .inl (cJ, 1, .inr (.inl lo)))] ++ WC')) H := P_perm ((List.perm_append_comm).trans (by rw [List.append_assoc])) hP2
  have hDb : va_D (AA s) (MC ++ ([(ou, .inl (cJ, 1, .inr (.inl lo)))] ++ WC')) := D_perm ((List.perm_append_comm).trans (by rw [List.append_assoc])) hD2
  refine lv_aload_n hx hb dL_law_1233 rfl (lv_at hl 2 rfl) ?_
  refine mcall (st1 := [.int (nI (wkN f 20)), .int (nI (wkN f 20))]) (va_runV (As := []) (rest := [.int (nI (wkN f 20))]) ⟨hx, hb, hml, hown, hts⟩ (MX_weakest_ok l G hM hR (by omega) ) (cwV 0 hts gL_law_X6_weakest rfl rfl rfl (by decide +kernel) ⟨Nat.le_of_ble_eq_true rfl, Nat.le_of_ble_eq_true rfl⟩) (PJ.preV hE hJ (rs_recv hE.1 hM (P_pre hPb)) ⟨P_pre hPb, (D_pre hDb).weaken (fun _ _ _ _ => trivial)⟩) rfl rfl hl.1 rfl (lv_room (Nat.le_of_ble_eq_true rfl)) dL_law_1234 ⟨by show _ + 0 ≤ 601024; omega, by show _ + 0 ≤ 7293034; omega⟩) hS (fun q _ h => inW_D (D_pre hDb) q h) (fun q h => inW_D (D_pre hDb) q h) rfl (fun H1 locs1 hB9 hz9 hk1 hS => ?_)
  obtain ⟨MC', hM', hP1, hD1⟩ := hB9
  obtain ⟨hP3, hD3⟩ := jnF (w1 := MC') hPb hDb hk1 hP1 hD1
  generalize H1 = H at hP3 hS ⊢
  refine lv_icmp_eq (tgt := 1491) hx hb dL_law_1237 (by decide) (fun _ => ?_) (fun h => absurd rfl h)
  refine W.widen (k := cells + 1) (n := slots + 6) (by omega) (by omega) ?_
  have hP4 : va_P G.1 vwCl ([(ou, .inl (cJ, 1, .inr (.inl lo)))] ++ (WC' ++ MC')) H := P_perm ((List.perm_append_comm).trans (by rw [List.append_assoc])) hP3
  have hD4 : va_D (AA s) ([(ou, .inl (cJ, 1, .inr (.inl lo)))] ++ (WC' ++ MC')) := D_perm ((List.perm_append_comm).trans (by rw [List.append_assoc])) hD3
  exact kk _ _ _ _ _ _ _ _ _ _ _ _ _ _ _ ⟨hX', PR_mono (by omega) hR, hM', hP4, hD4, hS, lv_sub hl [0, 1, 2, 3, 4] rfl⟩
set_option maxHeartbeats 4000000 in
set_option maxRecDepth 100000 in
theorem seg_ifLoaded_ok {p : Program} {l : Launch} {e : Env} {s : State} {m : MethodId} {below : List Frame} {meth : Method} {c : Code} {b L : Nat} {xs : Nat → Int32} {G : eG} {cJ : ClassId} {Q : State → Prop} (hlt : l.stackTraces = false) (hL : LX p s m c b L xs G cJ) {fe ob ou B i : Nat} {f sf : Nat → Int32} {ff : Nat → Nat → Int32} {old sz len : Nat} {tx : Nat → Int32} {hsn thr : Int32} {lo : Nat → Int64} {WC MC : va_W} {H : Heap} {locs : List Loc} {ls : Array Slot} {cells slots : Nat} (hD : LD s G cJ b fe ob ou B f sf ff old sz len tx hsn thr lo WC MC H locs ls i) (hi : i + 4 ≤ L) (hLL : L ≤ 2048) (hB : B + 10000 < 700000000) (hc1 : cells + 1 ≤ 601024) (hs1 : slots + 6 ≤ 7293034) (q : Nat) (hq : q < 2) (e1 : xs (i + 1) = nI q) (kk : ∀ (f sf : Nat → Int32) (ff : Nat → Nat → Int32) (old sz len : Nat) (tx : Nat → Int32) (hsn thr : Int32) (lo : Nat → Int64) (WC MC : va_W) (H : Heap) (locs : List Loc) (ls : Array Slot), LD s G cJ b fe ob ou (B + 10000) f sf ff old sz len tx hsn thr lo WC MC H locs ls i → W p l e room_1 s m #[Value.ref b] below meth c H locs (cells + 1) (slots + 6) Q (F0 m 1491 ls [])) : W p l e room_1 s m #[Value.ref b] below meth c H locs cells slots Q (F0 m 1242 ls []) := by
  obtain ⟨hx, hb, hml, hown, hts, hE, hJ0, hKJ, hXs, hbl⟩ := hL
  obtain ⟨hX, hR, hM, hP, hDD, hS, hl⟩ := hD
  have hbA : ¬ AA s b := Nat.not_le.mpr hbl
  have hJ : JX s H := hJ0.kept (fun a ha => hS.2.1 a ha (Nat.not_le.mpr ha))
  refine lv_aload_n hx hb dL_law_1242 rfl (lv_at hl 1 rfl) ?_
  refine lv_aload_n hx hb dL_law_1243 rfl (lv_at hl 0 rfl) ?_
  refine lv_iload hx hb dL_law_1244 (lv_at hl 4 rfl) ?_
  refine lv_iconst (v := nI 1) hx hb dL_law_1246 (by decide +kernel) ?_
  refine iaddN hx hb dL_law_1247 ?_
  refine va_sld hx hb hXs hbl hbA hS (vp_in_nI (n := i + 1) (by omega) (by omega)) dL_law_1248 ?_
  refine tS (st' := [.int (nI q), .ref fe]) (by rw [nI_clamp (by omega), e1]) ?_
  refine lv_aload_n hx hb dL_law_1249 rfl (lv_at hl 3 rfl) ?_
  have hPa : va_P G.1 vwCl (([(ou, .inl (cJ, 1, .inr (.inl lo)))] ++ WC) ++ MC) H := by rw [List.append_assoc]; exact hP
  have hDa : va_D (AA s) (([(ou, .inl (cJ, 1, .inr (.inl lo)))] ++ WC) ++ MC) := by rw [List.append_assoc]; exact hDD
  refine mcall (st1 := [.int (nI 0)]) (vx_runSW (As := [.ref fe, .int (nI q), .ref ou]) (rest := []) ⟨hx, hb, hml, hown, hts⟩ (CL_ifLoaded_ok l G cJ hX hR (by omega) q hq) (vx_cwSW 3 hts gL_law_L_ifLoaded rfl rfl rfl (by decide +kernel) ⟨Nat.le_of_ble_eq_true rfl, Nat.le_of_ble_eq_true rfl⟩) (PL.preS hE hJ hKJ ⟨P_pre hPa, (D_pre hDa).weaken (fun _ _ _ _ => trivial)⟩) rfl rfl hl.1 rfl (lv_room (Nat.le_of_ble_eq_true rfl)) dL_law_1250 ⟨by show cells + 0 ≤ 601024; omega, by show slots + 0 ≤ 7293034; omega⟩) hS (fun q _ h => inW_D (D_pre hDa) q h) (fun q h => inW_D (D_pre hDa) q h) rfl (fun H1 locs1 hB9 hz9 hk1 hS => ?_)
  obtain ⟨WC', hX', hP1, hD1⟩ := hB9
  obtain ⟨hP2, hD2⟩ := jnF (w1 := [(ou, .inl (cJ, 1, .inr (.inl (vp_updL lo 0 (((fWl f q)).toInt64)))))] ++ WC') hPa hDa hk1 hP1 hD1
  generalize H1 = H at hP2 hS ⊢
  replace hJ : JX s H := hJ0.kept (fun a ha => hS.2.1 a ha (Nat.not_le.mpr ha))
  have hPb : va_P G.1 vwCl (MC ++ ([(ou, .inl (cJ, 1, .inr (.inl (vp_updL lo 0 (((fWl f q)).toInt64)))))] ++ WC')) H := P_perm List.perm_append_comm hP2
  have hDb : va_D (AA s) (MC ++ ([(ou, .inl (cJ, 1, .inr (.inl (vp_updL lo 0 (((fWl f q)).toInt64)))))] ++ WC')) := D_perm List.perm_append_comm hD2
  refine lv_istore (lv' := [(5, .int (nI 0)), (0, .ref b), (1, .ref fe), (2, .ref ob), (3, .ref ou), (4, .int (nI i))]) hx hb dL_law_1253 hl (by decide) rfl (fun ls hl => ?_)
  refine lv_aload_n hx hb dL_law_1255 rfl (lv_at hl 3 rfl) ?_
  refine lv_aload_n hx hb dL_law_1256 rfl (lv_at hl 1 rfl) ?_
  refine lv_iload hx hb dL_law_1257 (lv_at hl 5 rfl) ?_
  refine lv_iconst (v := nI 1) hx hb dL_law_1259 (by decide +kernel) ?_
  refine iaddN hx hb dL_law_1260 ?_
  refine va_sld hx hb hXs hbl hbA hS (vp_in_nI (n := i + 1) (by omega) (by omega)) dL_law_1261 ?_
  refine tS (st' := [.int (nI q), .ref ob]) (by rw [nI_clamp (by omega), e1]) ?_
  refine mcall (st1 := [.int (fWl f q)]) (va_runV (As := [.int (nI q)]) (rest := []) ⟨hx, hb, hml, hown, hts⟩ (MX_ifLoaded_ok l G hM hR (by omega) q hq) (cwV 1 hts gL_law_X6_ifLoaded rfl rfl rfl (by decide +kernel) ⟨Nat.le_of_ble_eq_true rfl, Nat.le_of_ble_eq_true rfl⟩) (PJ.preV hE hJ (rs_recv hE.1 hM (P_pre hPb)) ⟨P_pre hPb, (D_pre hDb).weaken (fun _ _ _ _ => trivial)⟩) rfl rfl hl.1 rfl (lv_room (Nat.le_of_ble_eq_true rfl)) dL_law_1262 ⟨by show _ + 0 ≤ 601024; omega, by show _ + 0 ≤ 7293034; omega⟩) hS (fun q _ h => inW_D (D_pre hDb) q h) (fun q h => inW_D (D_pre hDb) q h) rfl (fun H1 locs1 hB9 hz9 hk1 hS => ?_)
  obtain ⟨MC', hM', hP1, hD1⟩ := hB9
  obtain ⟨hP3, hD3⟩ := jnF (w1 := MC') hPb hDb hk1 hP1 hD1
  generalize H1 = H at hP3 hS ⊢
  refine lv_istore (lv' := [(6, .int (fWl f q)), (5, .int (nI 0)), (0, .ref b), (1, .ref fe), (2, .ref ob), (3, .ref ou), (4, .int (nI i))]) hx hb dL_law_1265 hl (by decide) rfl (fun ls hl => ?_)
  refine lv_aload_n hx hb dL_law_1267 rfl (lv_at hl 4 rfl) ?_
  refine pcall (st1 := [.int (nI 0)]) (va_runV (As := []) (rest := []) ⟨hx, hb, hml, hown, hts⟩ (MX_thrown l G hM') (cwV 0 hts gL_law_X6_thrown rfl rfl rfl (by decide +kernel) ⟨Nat.le_of_ble_eq_true rfl, Nat.le_of_ble_eq_true rfl⟩) (PC.preV hE (rs_recv hE.1 hM' (P_pre hP3)) (P_pre hP3)) rfl rfl hl.1 rfl (lv_room (Nat.le_of_ble_eq_true rfl)) dL_law_1268 ⟨by show _ + 0 ≤ 601024; omega, by show _ + 0 ≤ 7293034; omega⟩) rfl ?_
  refine lv_iload hx hb dL_law_1271 (lv_at hl 1 rfl) ?_
  refine icmp_eqN (tgt := 1278) hx hb (by decide) (by decide) dL_law_1273 (by decide) (fun _ => ?_) (fun h => absurd rfl h)
  refine lv_iload hx hb dL_law_1278 (lv_at hl 1 rfl) ?_
  refine if_neN (tgt := 1295) hx hb (by decide) dL_law_1280 (by decide) (fun h => absurd rfl h) (fun _ => ?_)
  refine lv_aload_n hx hb dL_law_1283 rfl (lv_at hl 5 rfl) ?_
  refine lv_iconst (v := nI 0) hx hb dL_law_1284 (by decide +kernel) ?_
  refine va_lald hx hb hKJ (P_pre (P_perm ((List.perm_append_comm).trans (by rw [List.append_assoc])) hP3)) 0 0 rfl rfl (vp_in_nI (n := 0) (N := 1) (by decide) (by decide)) dL_law_1285 ?_
  refine tS (st' := [.long (((fWl f q)).toInt64)]) (by rw [nI_clamp (by decide), pk_uLs]) ?_
  refine lv_iload hx hb dL_law_1286 (lv_at hl 0 rfl) ?_
  refine lv_i2l (v := ((fWl f q)).toInt64) hx hb dL_law_1288 rfl ?_
  refine lv_lcmpE hx hb dL_law_1289 ?_
  refine if_eqN (tgt := 1295) hx hb (by decide) dL_law_1290 (by decide) (fun _ => ?_) (fun h => absurd rfl h)
  refine lv_goto (tgt := 1491) hx hb dL_law_1295 (by decide) ?_
  refine W.widen (k := cells + 1) (n := slots + 6) (by omega) (by omega) ?_
  have hP4 : va_P G.1 vwCl ([(ou, .inl (cJ, 1, .inr (.inl (vp_updL lo 0 (((fWl f q)).toInt64)))))] ++ (WC' ++ MC')) H := P_perm ((List.perm_append_comm).trans (by rw [List.append_assoc])) hP3
  have hD4 : va_D (AA s) ([(ou, .inl (cJ, 1, .inr (.inl (vp_updL lo 0 (((fWl f q)).toInt64)))))] ++ (WC' ++ MC')) := D_perm ((List.perm_append_comm).trans (by rw [List.append_assoc])) hD3
  exact kk _ _ _ _ _ _ _ _ _ _ _ _ _ _ _ ⟨hX', PR_mono (by omega) hR, hM', hP4, hD4, hS, lv_sub hl [2, 3, 4, 5, 6] rfl⟩
set_option maxHeartbeats 4000000 in
set_option maxRecDepth 100000 in
theorem seg_ifLoaded_e1 {p : Program} {l : Launch} {e : Env} {s : State} {m : MethodId} {below : List Frame} {meth : Method} {c : Code} {b L : Nat} {xs : Nat → Int32} {G : eG} {cJ : ClassId} {Q : State → Prop} (hlt : l.stackTraces = false) (hL : LX p s m c b L xs G cJ) {fe ob ou B i : Nat} {f sf : Nat → Int32} {ff : Nat → Nat → Int32} {old sz len : Nat} {tx : Nat → Int32} {hsn thr : Int32} {lo : Nat → Int64} {WC MC : va_W} {H : Heap} {locs : List Loc} {ls : Array Slot} {cells slots : Nat} (hD : LD s G cJ b fe ob ou B f sf ff old sz len tx hsn thr lo WC MC H locs ls i) (hi : i + 4 ≤ L) (hLL : L ≤ 2048) (hB : B + 10000 < 700000000) (hc1 : cells + 1 ≤ 601024) (hs1 : slots + 6 ≤ 7293034) (hNo : ¬ (nI 0 ≤ (xs (i + 1)) ∧ (xs (i + 1)) ≤ nI 1))  (kk : ∀ (f sf : Nat → Int32) (ff : Nat → Nat → Int32) (old sz len : Nat) (tx : Nat → Int32) (hsn thr : Int32) (lo : Nat → Int64) (WC MC : va_W) (H : Heap) (locs : List Loc) (ls : Array Slot), LD s G cJ b fe ob ou (B + 10000) f sf ff old sz len tx hsn thr lo WC MC H locs ls i → W p l e room_1 s m #[Value.ref b] below meth c H locs (cells + 1) (slots + 6) Q (F0 m 1491 ls [])) : W p l e room_1 s m #[Value.ref b] below meth c H locs cells slots Q (F0 m 1242 ls []) := by
  obtain ⟨hx, hb, hml, hown, hts, hE, hJ0, hKJ, hXs, hbl⟩ := hL
  obtain ⟨hX, hR, hM, hP, hDD, hS, hl⟩ := hD
  have hbA : ¬ AA s b := Nat.not_le.mpr hbl
  have hJ : JX s H := hJ0.kept (fun a ha => hS.2.1 a ha (Nat.not_le.mpr ha))
  refine lv_aload_n hx hb dL_law_1242 rfl (lv_at hl 1 rfl) ?_
  refine lv_aload_n hx hb dL_law_1243 rfl (lv_at hl 0 rfl) ?_
  refine lv_iload hx hb dL_law_1244 (lv_at hl 4 rfl) ?_
  refine lv_iconst (v := nI 1) hx hb dL_law_1246 (by decide +kernel) ?_
  refine iaddN hx hb dL_law_1247 ?_
  refine va_sld hx hb hXs hbl hbA hS (vp_in_nI (n := i + 1) (by omega) (by omega)) dL_law_1248 ?_
  refine tS (st' := [.int (xs (i + 1)), .ref fe]) (by rw [nI_clamp (by omega)]) ?_
  refine lv_aload_n hx hb dL_law_1249 rfl (lv_at hl 3 rfl) ?_
  have hPw : va_P G.1 vwCl (WC ++ MC) H := P_pre (P_perm List.perm_append_comm hP)
  have hDw : va_D (AA s) (WC ++ MC) := D_pre (D_perm List.perm_append_comm hDD)
  refine mcall (st1 := [.int (nI 1)]) (vx_runSW (As := [.ref fe, .int (xs (i + 1)), .ref ou]) (rest := []) ⟨hx, hb, hml, hown, hts⟩ (CL_ifLoaded_e1 l hlt G cJ hX hR (by omega) (xs (i + 1)) hNo) (vx_cwSW 3 hts gL_law_L_ifLoaded rfl rfl rfl (by decide +kernel) ⟨Nat.le_of_ble_eq_true rfl, Nat.le_of_ble_eq_true rfl⟩) (PL.preS hE hJ hKJ ⟨P_pre hPw, (D_pre hDw).weaken (fun _ _ _ _ => trivial)⟩) rfl rfl hl.1 rfl (lv_room (Nat.le_of_ble_eq_true rfl)) dL_law_1250 ⟨by show cells + 1 ≤ 601024; omega, by show slots + 6 ≤ 7293034; omega⟩) hS (fun q _ h => (h : False).elim) (fun q h => (h : False).elim) rfl (fun H1 locs1 hB9 hz9 hk1 hS => ?_)
  have hP2 := P_kept hP (fun a ha => hk1 a ha (fun h => h))
  generalize H1 = H at hP2 hS ⊢
  replace hJ : JX s H := hJ0.kept (fun a ha => hS.2.1 a ha (Nat.not_le.mpr ha))
  have hPa : va_P G.1 vwCl (([(ou, .inl (cJ, 1, .inr (.inl lo)))] ++ WC) ++ MC) H := by rw [List.append_assoc]; exact hP2
  have hDa : va_D (AA s) (([(ou, .inl (cJ, 1, .inr (.inl lo)))] ++ WC) ++ MC) := by rw [List.append_assoc]; exact hDD
  have hPb : va_P G.1 vwCl (MC ++ ([(ou, .inl (cJ, 1, .inr (.inl lo)))] ++ WC)) H := P_perm List.perm_append_comm hPa
  have hDb : va_D (AA s) (MC ++ ([(ou, .inl (cJ, 1, .inr (.inl lo)))] ++ WC)) := D_perm List.perm_append_comm hDa
  refine lv_istore (lv' := [(5, .int (nI 1)), (0, .ref b), (1, .ref fe), (2, .ref ob), (3, .ref ou), (4, .int (nI i))]) hx hb dL_law_1253 hl (by decide) rfl (fun ls hl => ?_)
  refine lv_aload_n hx hb dL_law_1255 rfl (lv_at hl 3 rfl) ?_
  refine lv_aload_n hx hb dL_law_1256 rfl (lv_at hl 1 rfl) ?_
  refine lv_iload hx hb dL_law_1257 (lv_at hl 5 rfl) ?_
  refine lv_iconst (v := nI 1) hx hb dL_law_1259 (by decide +kernel) ?_
  refine iaddN hx hb dL_law_1260 ?_
  refine va_sld hx hb hXs hbl hbA hS (vp_in_nI (n := i + 1) (by omega) (by omega)) dL_law_1261 ?_
  refine tS (st' := [.int (xs (i + 1)), .ref ob]) (by rw [nI_clamp (by omega)]) ?_
  refine mcall (st1 := [.int (nI 0)]) (va_runV (As := [.int (xs (i + 1))]) (rest := []) ⟨hx, hb, hml, hown, hts⟩ (MX_ifLoaded_e1 l G hM hR (by omega) (xs (i + 1)) hNo) (cwV 1 hts gL_law_X6_ifLoaded rfl rfl rfl (by decide +kernel) ⟨Nat.le_of_ble_eq_true rfl, Nat.le_of_ble_eq_true rfl⟩) (PJ.preV hE hJ (rs_recv hE.1 hM (P_pre hPb)) ⟨P_pre hPb, (D_pre hDb).weaken (fun _ _ _ _ => trivial)⟩) rfl rfl hl.1 rfl (lv_room (Nat.le_of_ble_eq_true rfl)) dL_law_1262 ⟨by show _ + 0 ≤ 601024; omega, by show _ + 0 ≤ 7293034; omega⟩) hS (fun q _ h => inW_D (D_pre hDb) q h) (fun q h => inW_D (D_pre hDb) q h) rfl (fun H1 locs1 hB9 hz9 hk1 hS => ?_)
  obtain ⟨MC', hM', hP1, hD1⟩ := hB9
  obtain ⟨hP3, hD3⟩ := jnF (w1 := MC') hPb hDb hk1 hP1 hD1
  generalize H1 = H at hP3 hS ⊢
  refine lv_istore (lv' := [(6, .int (nI 0)), (5, .int (nI 1)), (0, .ref b), (1, .ref fe), (2, .ref ob), (3, .ref ou), (4, .int (nI i))]) hx hb dL_law_1265 hl (by decide) rfl (fun ls hl => ?_)
  refine lv_aload_n hx hb dL_law_1267 rfl (lv_at hl 4 rfl) ?_
  refine pcall (st1 := [.int (nI 1)]) (va_runV (As := []) (rest := []) ⟨hx, hb, hml, hown, hts⟩ (MX_thrown l G hM') (cwV 0 hts gL_law_X6_thrown rfl rfl rfl (by decide +kernel) ⟨Nat.le_of_ble_eq_true rfl, Nat.le_of_ble_eq_true rfl⟩) (PC.preV hE (rs_recv hE.1 hM' (P_pre hP3)) (P_pre hP3)) rfl rfl hl.1 rfl (lv_room (Nat.le_of_ble_eq_true rfl)) dL_law_1268 ⟨by show _ + 0 ≤ 601024; omega, by show _ + 0 ≤ 7293034; omega⟩) rfl ?_
  refine lv_iload hx hb dL_law_1271 (lv_at hl 1 rfl) ?_
  refine icmp_eqN (tgt := 1278) hx hb (by decide) (by decide) dL_law_1273 (by decide) (fun _ => ?_) (fun h => absurd rfl h)
  refine lv_iload hx hb dL_law_1278 (lv_at hl 1 rfl) ?_
  refine if_neN (tgt := 1295) hx hb (by decide) dL_law_1280 (by decide) (fun _ => ?_) (fun h => absurd h (by decide))
  refine lv_goto (tgt := 1491) hx hb dL_law_1295 (by decide) ?_
  refine W.widen (k := cells + 1) (n := slots + 6) (by omega) (by omega) ?_
  have hP4 : va_P G.1 vwCl ([(ou, .inl (cJ, 1, .inr (.inl lo)))] ++ (WC ++ MC')) H := P_perm ((List.perm_append_comm).trans (by rw [List.append_assoc])) hP3
  have hD4 : va_D (AA s) ([(ou, .inl (cJ, 1, .inr (.inl lo)))] ++ (WC ++ MC')) := D_perm ((List.perm_append_comm).trans (by rw [List.append_assoc])) hD3
  exact kk _ _ _ _ _ _ _ _ _ _ _ _ _ _ _ ⟨hX, PR_mono (by omega) hR, hM', hP4, hD4, hS, lv_sub hl [2, 3, 4, 5, 6] rfl⟩
set_option maxHeartbeats 4000000 in
set_option maxRecDepth 100000 in
theorem seg_bestHour_ok {p : Program} {l : Launch} {e : Env} {s : State} {m : MethodId} {below : List Frame} {meth : Method} {c : Code} {b L : Nat} {xs : Nat → Int32} {G : eG} {cJ : ClassId} {Q : State → Prop} (hlt : l.stackTraces = false) (hL : LX p s m c b L xs G cJ) {fe ob ou B i : Nat} {f sf : Nat → Int32} {ff : Nat → Nat → Int32} {old sz len : Nat} {tx : Nat → Int32} {hsn thr : Int32} {lo : Nat → Int64} {WC MC : va_W} {H : Heap} {locs : List Loc} {ls : Array Slot} {cells slots : Nat} (hD : LD s G cJ b fe ob ou B f sf ff old sz len tx hsn thr lo WC MC H locs ls i) (hi : i + 4 ≤ L) (hLL : L ≤ 2048) (hB : B + 10000 < 700000000) (hc1 : cells + 1 ≤ 601024) (hs1 : slots + 6 ≤ 7293034)   (kk : ∀ (f sf : Nat → Int32) (ff : Nat → Nat → Int32) (old sz len : Nat) (tx : Nat → Int32) (hsn thr : Int32) (lo : Nat → Int64) (WC MC : va_W) (H : Heap) (locs : List Loc) (ls : Array Slot), LD s G cJ b fe ob ou (B + 10000) f sf ff old sz len tx hsn thr lo WC MC H locs ls i → W p l e room_1 s m #[Value.ref b] below meth c H locs (cells + 1) (slots + 6) Q (F0 m 1491 ls [])) : W p l e room_1 s m #[Value.ref b] below meth c H locs cells slots Q (F0 m 1298 ls []) := by
  obtain ⟨hx, hb, hml, hown, hts, hE, hJ0, hKJ, hXs, hbl⟩ := hL
  obtain ⟨hX, hR, hM, hP, hDD, hS, hl⟩ := hD
  have hbA : ¬ AA s b := Nat.not_le.mpr hbl
  have hJ : JX s H := hJ0.kept (fun a ha => hS.2.1 a ha (Nat.not_le.mpr ha))
  refine lv_aload_n hx hb dL_law_1298 rfl (lv_at hl 1 rfl) ?_
  have hPa : va_P G.1 vwCl (WC ++ (MC ++ [(ou, .inl (cJ, 1, .inr (.inl lo)))])) H := P_perm ((List.perm_append_comm).trans (by rw [List.append_assoc])) hP
  have hDa : va_D (AA s) (WC ++ (MC ++ [(ou, .inl (cJ, 1, .inr (.inl lo)))])) := D_perm ((List.perm_append_comm).trans (by rw [List.append_assoc])) hDD
  refine mcall (st1 := [.int (nI (bN f 24))]) (va_runV (As := []) (rest := []) ⟨hx, hb, hml, hown, hts⟩ (CX_bestHour_ok l G hX hR (by omega) ) (cwV 0 hts gL_law_X5_bestHour rfl rfl rfl (by decide +kernel) ⟨Nat.le_of_ble_eq_true rfl, Nat.le_of_ble_eq_true rfl⟩) (PJ.preV hE hJ (xs_recv hE.1 hX (P_pre hPa)) ⟨P_pre hPa, (D_pre hDa).weaken (fun _ _ _ _ => trivial)⟩) rfl rfl hl.1 rfl (lv_room (Nat.le_of_ble_eq_true rfl)) dL_law_1299 ⟨by show cells + 0 ≤ 601024; omega, by show slots + 0 ≤ 7293034; omega⟩) hS (fun q _ h => inW_D (D_pre hDa) q h) (fun q h => inW_D (D_pre hDa) q h) rfl (fun H1 locs1 hB9 hz9 hk1 hS => ?_)
  obtain ⟨WC', hX', hP1, hD1⟩ := hB9
  obtain ⟨hP2, hD2⟩ := jnF (w1 := WC') hPa hDa hk1 hP1 hD1
  generalize H1 = H at hP2 hS ⊢
  replace hJ : JX s H := hJ0.kept (fun a ha => hS.2.1 a ha (Nat.not_le.mpr ha))
  have hPb : va_P G.1 vwCl (MC ++ ([(ou, .inl (cJ, 1, .inr (.inl lo)))] ++ WC')) H := P_perm ((List.perm_append_comm).trans (by rw [List.append_assoc])) hP2
  have hDb : va_D (AA s) (MC ++ ([(ou, .inl (cJ, 1, .inr (.inl lo)))] ++ WC')) := D_perm ((List.perm_append_comm).trans (by rw [List.append_assoc])) hD2
  refine lv_aload_n hx hb dL_law_1302 rfl (lv_at hl 2 rfl) ?_
  refine mcall (st1 := [.int (nI (bN f 24)), .int (nI (bN f 24))]) (va_runV (As := []) (rest := [.int (nI (bN f 24))]) ⟨hx, hb, hml, hown, hts⟩ (MX_bestHour_ok l G hM hR (by omega) ) (cwV 0 hts gL_law_X6_bestHour rfl rfl rfl (by decide +kernel) ⟨Nat.le_of_ble_eq_true rfl, Nat.le_of_ble_eq_true rfl⟩) (PJ.preV hE hJ (rs_recv hE.1 hM (P_pre hPb)) ⟨P_pre hPb, (D_pre hDb).weaken (fun _ _ _ _ => trivial)⟩) rfl rfl hl.1 rfl (lv_room (Nat.le_of_ble_eq_true rfl)) dL_law_1303 ⟨by show _ + 0 ≤ 601024; omega, by show _ + 0 ≤ 7293034; omega⟩) hS (fun q _ h => inW_D (D_pre hDb) q h) (fun q h => inW_D (D_pre hDb) q h) rfl (fun H1 locs1 hB9 hz9 hk1 hS => ?_)
  obtain ⟨MC', hM', hP1, hD1⟩ := hB9
  obtain ⟨hP3, hD3⟩ := jnF (w1 := MC') hPb hDb hk1 hP1 hD1
  generalize H1 = H at hP3 hS ⊢
  refine lv_icmp_eq (tgt := 1491) hx hb dL_law_1306 (by decide) (fun _ => ?_) (fun h => absurd rfl h)
  refine W.widen (k := cells + 1) (n := slots + 6) (by omega) (by omega) ?_
  have hP4 : va_P G.1 vwCl ([(ou, .inl (cJ, 1, .inr (.inl lo)))] ++ (WC' ++ MC')) H := P_perm ((List.perm_append_comm).trans (by rw [List.append_assoc])) hP3
  have hD4 : va_D (AA s) ([(ou, .inl (cJ, 1, .inr (.inl lo)))] ++ (WC' ++ MC')) := D_perm ((List.perm_append_comm).trans (by rw [List.append_assoc])) hD3
  exact kk _ _ _ _ _ _ _ _ _ _ _ _ _ _ _ ⟨hX', PR_mono (by omega) hR, hM', hP4, hD4, hS, lv_sub hl [0, 1, 2, 3, 4] rfl⟩
set_option maxHeartbeats 4000000 in
set_option maxRecDepth 100000 in
theorem seg_leastList_ok {p : Program} {l : Launch} {e : Env} {s : State} {m : MethodId} {below : List Frame} {meth : Method} {c : Code} {b L : Nat} {xs : Nat → Int32} {G : eG} {cJ : ClassId} {Q : State → Prop} (hlt : l.stackTraces = false) (hL : LX p s m c b L xs G cJ) {fe ob ou B i : Nat} {f sf : Nat → Int32} {ff : Nat → Nat → Int32} {old sz len : Nat} {tx : Nat → Int32} {hsn thr : Int32} {lo : Nat → Int64} {WC MC : va_W} {H : Heap} {locs : List Loc} {ls : Array Slot} {cells slots : Nat} (hD : LD s G cJ b fe ob ou B f sf ff old sz len tx hsn thr lo WC MC H locs ls i) (hi : i + 4 ≤ L) (hLL : L ≤ 2048) (hB : B + 10000 < 700000000) (hc1 : cells + 1 ≤ 601024) (hs1 : slots + 6 ≤ 7293034) (v : Nat) (hv : v ≤ 8) (e1 : xs (i + 1) = nI v) (kk : ∀ (f sf : Nat → Int32) (ff : Nat → Nat → Int32) (old sz len : Nat) (tx : Nat → Int32) (hsn thr : Int32) (lo : Nat → Int64) (WC MC : va_W) (H : Heap) (locs : List Loc) (ls : Array Slot), LD s G cJ b fe ob ou (B + 10000) f sf ff old sz len tx hsn thr lo WC MC H locs ls i → W p l e room_1 s m #[Value.ref b] below meth c H locs (cells + 1) (slots + 6) Q (F0 m 1491 ls [])) : W p l e room_1 s m #[Value.ref b] below meth c H locs cells slots Q (F0 m 1311 ls []) := by
  obtain ⟨hx, hb, hml, hown, hts, hE, hJ0, hKJ, hXs, hbl⟩ := hL
  obtain ⟨hX, hR, hM, hP, hDD, hS, hl⟩ := hD
  have hbA : ¬ AA s b := Nat.not_le.mpr hbl
  have hJ : JX s H := hJ0.kept (fun a ha => hS.2.1 a ha (Nat.not_le.mpr ha))
  refine lv_aload_n hx hb dL_law_1311 rfl (lv_at hl 1 rfl) ?_
  refine lv_aload_n hx hb dL_law_1312 rfl (lv_at hl 0 rfl) ?_
  refine lv_iload hx hb dL_law_1313 (lv_at hl 4 rfl) ?_
  refine lv_iconst (v := nI 1) hx hb dL_law_1315 (by decide +kernel) ?_
  refine iaddN hx hb dL_law_1316 ?_
  refine va_sld hx hb hXs hbl hbA hS (vp_in_nI (n := i + 1) (by omega) (by omega)) dL_law_1317 ?_
  refine tS (st' := [.int (nI v), .ref fe]) (by rw [nI_clamp (by omega), e1]) ?_
  refine lv_aload_n hx hb dL_law_1318 rfl (lv_at hl 3 rfl) ?_
  have hPa : va_P G.1 vwCl (([(ou, .inl (cJ, 1, .inr (.inl lo)))] ++ WC) ++ MC) H := by rw [List.append_assoc]; exact hP
  have hDa : va_D (AA s) (([(ou, .inl (cJ, 1, .inr (.inl lo)))] ++ WC) ++ MC) := by rw [List.append_assoc]; exact hDD
  refine mcall (st1 := [.int (nI 0)]) (vx_runSW (As := [.ref fe, .int (nI v), .ref ou]) (rest := []) ⟨hx, hb, hml, hown, hts⟩ (CL_leastList_ok l G cJ hX hR (by omega) v hv) (vx_cwSW 3 hts gL_law_L_leastList rfl rfl rfl (by decide +kernel) ⟨Nat.le_of_ble_eq_true rfl, Nat.le_of_ble_eq_true rfl⟩) (PL.preS hE hJ hKJ ⟨P_pre hPa, (D_pre hDa).weaken (fun _ _ _ _ => trivial)⟩) rfl rfl hl.1 rfl (lv_room (Nat.le_of_ble_eq_true rfl)) dL_law_1319 ⟨by show cells + 0 ≤ 601024; omega, by show slots + 0 ≤ 7293034; omega⟩) hS (fun q _ h => inW_D (D_pre hDa) q h) (fun q h => inW_D (D_pre hDa) q h) rfl (fun H1 locs1 hB9 hz9 hk1 hS => ?_)
  obtain ⟨WC', hX', hP1, hD1⟩ := hB9
  obtain ⟨hP2, hD2⟩ := jnF (w1 := [(ou, .inl (cJ, 1, .inr (.inl (vp_updL lo 0 (((fLs f v)).toInt64)))))] ++ WC') hPa hDa hk1 hP1 hD1
  generalize H1 = H at hP2 hS ⊢
  replace hJ : JX s H := hJ0.kept (fun a ha => hS.2.1 a ha (Nat.not_le.mpr ha))
  have hPb : va_P G.1 vwCl (MC ++ ([(ou, .inl (cJ, 1, .inr (.inl (vp_updL lo 0 (((fLs f v)).toInt64)))))] ++ WC')) H := P_perm List.perm_append_comm hP2
  have hDb : va_D (AA s) (MC ++ ([(ou, .inl (cJ, 1, .inr (.inl (vp_updL lo 0 (((fLs f v)).toInt64)))))] ++ WC')) := D_perm List.perm_append_comm hD2
  refine lv_istore (lv' := [(5, .int (nI 0)), (0, .ref b), (1, .ref fe), (2, .ref ob), (3, .ref ou), (4, .int (nI i))]) hx hb dL_law_1322 hl (by decide) rfl (fun ls hl => ?_)
  refine lv_aload_n hx hb dL_law_1324 rfl (lv_at hl 3 rfl) ?_
  refine lv_aload_n hx hb dL_law_1325 rfl (lv_at hl 1 rfl) ?_
  refine lv_iload hx hb dL_law_1326 (lv_at hl 5 rfl) ?_
  refine lv_iconst (v := nI 1) hx hb dL_law_1328 (by decide +kernel) ?_
  refine iaddN hx hb dL_law_1329 ?_
  refine va_sld hx hb hXs hbl hbA hS (vp_in_nI (n := i + 1) (by omega) (by omega)) dL_law_1330 ?_
  refine tS (st' := [.int (nI v), .ref ob]) (by rw [nI_clamp (by omega), e1]) ?_
  refine mcall (st1 := [.int (fLs f v)]) (va_runV (As := [.int (nI v)]) (rest := []) ⟨hx, hb, hml, hown, hts⟩ (MX_leastList_ok l G hM hR (by omega) v hv) (cwV 1 hts gL_law_X6_leastList rfl rfl rfl (by decide +kernel) ⟨Nat.le_of_ble_eq_true rfl, Nat.le_of_ble_eq_true rfl⟩) (PJ.preV hE hJ (rs_recv hE.1 hM (P_pre hPb)) ⟨P_pre hPb, (D_pre hDb).weaken (fun _ _ _ _ => trivial)⟩) rfl rfl hl.1 rfl (lv_room (Nat.le_of_ble_eq_true rfl)) dL_law_1331 ⟨by show _ + 0 ≤ 601024; omega, by show _ + 0 ≤ 7293034; omega⟩) hS (fun q _ h => inW_D (D_pre hDb) q h) (fun q h => inW_D (D_pre hDb) q h) rfl (fun H1 locs1 hB9 hz9 hk1 hS => ?_)
  obtain ⟨MC', hM', hP1, hD1⟩ := hB9
  obtain ⟨hP3, hD3⟩ := jnF (w1 := MC') hPb hDb hk1 hP1 hD1
  generalize H1 = H at hP3 hS ⊢
  refine lv_istore (lv' := [(6, .int (fLs f v)), (5, .int (nI 0)), (0, .ref b), (1, .ref fe), (2, .ref ob), (3, .ref ou), (4, .int (nI i))]) hx hb dL_law_1334 hl (by decide) rfl (fun ls hl => ?_)
  refine lv_aload_n hx hb dL_law_1336 rfl (lv_at hl 4 rfl) ?_
  refine pcall (st1 := [.int (nI 0)]) (va_runV (As := []) (rest := []) ⟨hx, hb, hml, hown, hts⟩ (MX_thrown l G hM') (cwV 0 hts gL_law_X6_thrown rfl rfl rfl (by decide +kernel) ⟨Nat.le_of_ble_eq_true rfl, Nat.le_of_ble_eq_true rfl⟩) (PC.preV hE (rs_recv hE.1 hM' (P_pre hP3)) (P_pre hP3)) rfl rfl hl.1 rfl (lv_room (Nat.le_of_ble_eq_true rfl)) dL_law_1337 ⟨by show _ + 0 ≤ 601024; omega, by show _ + 0 ≤ 7293034; omega⟩) rfl ?_
  refine lv_iload hx hb dL_law_1340 (lv_at hl 1 rfl) ?_
  refine icmp_eqN (tgt := 1347) hx hb (by decide) (by decide) dL_law_1342 (by decide) (fun _ => ?_) (fun h => absurd rfl h)
  refine lv_iload hx hb dL_law_1347 (lv_at hl 1 rfl) ?_
  refine if_neN (tgt := 1364) hx hb (by decide) dL_law_1349 (by decide) (fun h => absurd rfl h) (fun _ => ?_)
  refine lv_aload_n hx hb dL_law_1352 rfl (lv_at hl 5 rfl) ?_
  refine lv_iconst (v := nI 0) hx hb dL_law_1353 (by decide +kernel) ?_
  refine va_lald hx hb hKJ (P_pre (P_perm ((List.perm_append_comm).trans (by rw [List.append_assoc])) hP3)) 0 0 rfl rfl (vp_in_nI (n := 0) (N := 1) (by decide) (by decide)) dL_law_1354 ?_
  refine tS (st' := [.long (((fLs f v)).toInt64)]) (by rw [nI_clamp (by decide), pk_uLs]) ?_
  refine lv_iload hx hb dL_law_1355 (lv_at hl 0 rfl) ?_
  refine lv_i2l (v := ((fLs f v)).toInt64) hx hb dL_law_1357 rfl ?_
  refine lv_lcmpE hx hb dL_law_1358 ?_
  refine if_eqN (tgt := 1364) hx hb (by decide) dL_law_1359 (by decide) (fun _ => ?_) (fun h => absurd rfl h)
  refine lv_goto (tgt := 1491) hx hb dL_law_1364 (by decide) ?_
  refine W.widen (k := cells + 1) (n := slots + 6) (by omega) (by omega) ?_
  have hP4 : va_P G.1 vwCl ([(ou, .inl (cJ, 1, .inr (.inl (vp_updL lo 0 (((fLs f v)).toInt64)))))] ++ (WC' ++ MC')) H := P_perm ((List.perm_append_comm).trans (by rw [List.append_assoc])) hP3
  have hD4 : va_D (AA s) ([(ou, .inl (cJ, 1, .inr (.inl (vp_updL lo 0 (((fLs f v)).toInt64)))))] ++ (WC' ++ MC')) := D_perm ((List.perm_append_comm).trans (by rw [List.append_assoc])) hD3
  exact kk _ _ _ _ _ _ _ _ _ _ _ _ _ _ _ ⟨hX', PR_mono (by omega) hR, hM', hP4, hD4, hS, lv_sub hl [2, 3, 4, 5, 6] rfl⟩
set_option maxHeartbeats 4000000 in
set_option maxRecDepth 100000 in
theorem seg_leastList_e1 {p : Program} {l : Launch} {e : Env} {s : State} {m : MethodId} {below : List Frame} {meth : Method} {c : Code} {b L : Nat} {xs : Nat → Int32} {G : eG} {cJ : ClassId} {Q : State → Prop} (hlt : l.stackTraces = false) (hL : LX p s m c b L xs G cJ) {fe ob ou B i : Nat} {f sf : Nat → Int32} {ff : Nat → Nat → Int32} {old sz len : Nat} {tx : Nat → Int32} {hsn thr : Int32} {lo : Nat → Int64} {WC MC : va_W} {H : Heap} {locs : List Loc} {ls : Array Slot} {cells slots : Nat} (hD : LD s G cJ b fe ob ou B f sf ff old sz len tx hsn thr lo WC MC H locs ls i) (hi : i + 4 ≤ L) (hLL : L ≤ 2048) (hB : B + 10000 < 700000000) (hc1 : cells + 1 ≤ 601024) (hs1 : slots + 6 ≤ 7293034) (hNo : ¬ (nI 0 ≤ (xs (i + 1)) ∧ (xs (i + 1)) ≤ nI 8))  (kk : ∀ (f sf : Nat → Int32) (ff : Nat → Nat → Int32) (old sz len : Nat) (tx : Nat → Int32) (hsn thr : Int32) (lo : Nat → Int64) (WC MC : va_W) (H : Heap) (locs : List Loc) (ls : Array Slot), LD s G cJ b fe ob ou (B + 10000) f sf ff old sz len tx hsn thr lo WC MC H locs ls i → W p l e room_1 s m #[Value.ref b] below meth c H locs (cells + 1) (slots + 6) Q (F0 m 1491 ls [])) : W p l e room_1 s m #[Value.ref b] below meth c H locs cells slots Q (F0 m 1311 ls []) := by
  obtain ⟨hx, hb, hml, hown, hts, hE, hJ0, hKJ, hXs, hbl⟩ := hL
  obtain ⟨hX, hR, hM, hP, hDD, hS, hl⟩ := hD
  have hbA : ¬ AA s b := Nat.not_le.mpr hbl
  have hJ : JX s H := hJ0.kept (fun a ha => hS.2.1 a ha (Nat.not_le.mpr ha))
  refine lv_aload_n hx hb dL_law_1311 rfl (lv_at hl 1 rfl) ?_
  refine lv_aload_n hx hb dL_law_1312 rfl (lv_at hl 0 rfl) ?_
  refine lv_iload hx hb dL_law_1313 (lv_at hl 4 rfl) ?_
  refine lv_iconst (v := nI 1) hx hb dL_law_1315 (by decide +kernel) ?_
  refine iaddN hx hb dL_law_1316 ?_
  refine va_sld hx hb hXs hbl hbA hS (vp_in_nI (n := i + 1) (by omega) (by omega)) dL_law_1317 ?_
  refine tS (st' := [.int (xs (i + 1)), .ref fe]) (by rw [nI_clamp (by omega)]) ?_
  refine lv_aload_n hx hb dL_law_1318 rfl (lv_at hl 3 rfl) ?_
  have hPw : va_P G.1 vwCl (WC ++ MC) H := P_pre (P_perm List.perm_append_comm hP)
  have hDw : va_D (AA s) (WC ++ MC) := D_pre (D_perm List.perm_append_comm hDD)
  refine mcall (st1 := [.int (nI 1)]) (vx_runSW (As := [.ref fe, .int (xs (i + 1)), .ref ou]) (rest := []) ⟨hx, hb, hml, hown, hts⟩ (CL_leastList_e1 l hlt G cJ hX hR (by omega) (xs (i + 1)) hNo) (vx_cwSW 3 hts gL_law_L_leastList rfl rfl rfl (by decide +kernel) ⟨Nat.le_of_ble_eq_true rfl, Nat.le_of_ble_eq_true rfl⟩) (PL.preS hE hJ hKJ ⟨P_pre hPw, (D_pre hDw).weaken (fun _ _ _ _ => trivial)⟩) rfl rfl hl.1 rfl (lv_room (Nat.le_of_ble_eq_true rfl)) dL_law_1319 ⟨by show cells + 1 ≤ 601024; omega, by show slots + 6 ≤ 7293034; omega⟩) hS (fun q _ h => (h : False).elim) (fun q h => (h : False).elim) rfl (fun H1 locs1 hB9 hz9 hk1 hS => ?_)
  have hP2 := P_kept hP (fun a ha => hk1 a ha (fun h => h))
  generalize H1 = H at hP2 hS ⊢
  replace hJ : JX s H := hJ0.kept (fun a ha => hS.2.1 a ha (Nat.not_le.mpr ha))
  have hPa : va_P G.1 vwCl (([(ou, .inl (cJ, 1, .inr (.inl lo)))] ++ WC) ++ MC) H := by rw [List.append_assoc]; exact hP2
  have hDa : va_D (AA s) (([(ou, .inl (cJ, 1, .inr (.inl lo)))] ++ WC) ++ MC) := by rw [List.append_assoc]; exact hDD
  have hPb : va_P G.1 vwCl (MC ++ ([(ou, .inl (cJ, 1, .inr (.inl lo)))] ++ WC)) H := P_perm List.perm_append_comm hPa
  have hDb : va_D (AA s) (MC ++ ([(ou, .inl (cJ, 1, .inr (.inl lo)))] ++ WC)) := D_perm List.perm_append_comm hDa
  refine lv_istore (lv' := [(5, .int (nI 1)), (0, .ref b), (1, .ref fe), (2, .ref ob), (3, .ref ou), (4, .int (nI i))]) hx hb dL_law_1322 hl (by decide) rfl (fun ls hl => ?_)
  refine lv_aload_n hx hb dL_law_1324 rfl (lv_at hl 3 rfl) ?_
  refine lv_aload_n hx hb dL_law_1325 rfl (lv_at hl 1 rfl) ?_
  refine lv_iload hx hb dL_law_1326 (lv_at hl 5 rfl) ?_
  refine lv_iconst (v := nI 1) hx hb dL_law_1328 (by decide +kernel) ?_
  refine iaddN hx hb dL_law_1329 ?_
  refine va_sld hx hb hXs hbl hbA hS (vp_in_nI (n := i + 1) (by omega) (by omega)) dL_law_1330 ?_
  refine tS (st' := [.int (xs (i + 1)), .ref ob]) (by rw [nI_clamp (by omega)]) ?_
  refine mcall (st1 := [.int (nI 0)]) (va_runV (As := [.int (xs (i + 1))]) (rest := []) ⟨hx, hb, hml, hown, hts⟩ (MX_leastList_e1 l G hM hR (by omega) (xs (i + 1)) hNo) (cwV 1 hts gL_law_X6_leastList rfl rfl rfl (by decide +kernel) ⟨Nat.le_of_ble_eq_true rfl, Nat.le_of_ble_eq_true rfl⟩) (PJ.preV hE hJ (rs_recv hE.1 hM (P_pre hPb)) ⟨P_pre hPb, (D_pre hDb).weaken (fun _ _ _ _ => trivial)⟩) rfl rfl hl.1 rfl (lv_room (Nat.le_of_ble_eq_true rfl)) dL_law_1331 ⟨by show _ + 0 ≤ 601024; omega, by show _ + 0 ≤ 7293034; omega⟩) hS (fun q _ h => inW_D (D_pre hDb) q h) (fun q h => inW_D (D_pre hDb) q h) rfl (fun H1 locs1 hB9 hz9 hk1 hS => ?_)
  obtain ⟨MC', hM', hP1, hD1⟩ := hB9
  obtain ⟨hP3, hD3⟩ := jnF (w1 := MC') hPb hDb hk1 hP1 hD1
  generalize H1 = H at hP3 hS ⊢
  refine lv_istore (lv' := [(6, .int (nI 0)), (5, .int (nI 1)), (0, .ref b), (1, .ref fe), (2, .ref ob), (3, .ref ou), (4, .int (nI i))]) hx hb dL_law_1334 hl (by decide) rfl (fun ls hl => ?_)
  refine lv_aload_n hx hb dL_law_1336 rfl (lv_at hl 4 rfl) ?_
  refine pcall (st1 := [.int (nI 1)]) (va_runV (As := []) (rest := []) ⟨hx, hb, hml, hown, hts⟩ (MX_thrown l G hM') (cwV 0 hts gL_law_X6_thrown rfl rfl rfl (by decide +kernel) ⟨Nat.le_of_ble_eq_true rfl, Nat.le_of_ble_eq_true rfl⟩) (PC.preV hE (rs_recv hE.1 hM' (P_pre hP3)) (P_pre hP3)) rfl rfl hl.1 rfl (lv_room (Nat.le_of_ble_eq_true rfl)) dL_law_1337 ⟨by show _ + 0 ≤ 601024; omega, by show _ + 0 ≤ 7293034; omega⟩) rfl ?_
  refine lv_iload hx hb dL_law_1340 (lv_at hl 1 rfl) ?_
  refine icmp_eqN (tgt := 1347) hx hb (by decide) (by decide) dL_law_1342 (by decide) (fun _ => ?_) (fun h => absurd rfl h)
  refine lv_iload hx hb dL_law_1347 (lv_at hl 1 rfl) ?_
  refine if_neN (tgt := 1364) hx hb (by decide) dL_law_1349 (by decide) (fun _ => ?_) (fun h => absurd h (by decide))
  refine lv_goto (tgt := 1491) hx hb dL_law_1364 (by decide) ?_
  refine W.widen (k := cells + 1) (n := slots + 6) (by omega) (by omega) ?_
  have hP4 : va_P G.1 vwCl ([(ou, .inl (cJ, 1, .inr (.inl lo)))] ++ (WC ++ MC')) H := P_perm ((List.perm_append_comm).trans (by rw [List.append_assoc])) hP3
  have hD4 : va_D (AA s) ([(ou, .inl (cJ, 1, .inr (.inl lo)))] ++ (WC ++ MC')) := D_perm ((List.perm_append_comm).trans (by rw [List.append_assoc])) hD3
  exact kk _ _ _ _ _ _ _ _ _ _ _ _ _ _ _ ⟨hX, PR_mono (by omega) hR, hM', hP4, hD4, hS, lv_sub hl [2, 3, 4, 5, 6] rfl⟩
set_option maxHeartbeats 4000000 in
set_option maxRecDepth 100000 in
theorem seg_lasts_ok {p : Program} {l : Launch} {e : Env} {s : State} {m : MethodId} {below : List Frame} {meth : Method} {c : Code} {b L : Nat} {xs : Nat → Int32} {G : eG} {cJ : ClassId} {Q : State → Prop} (hlt : l.stackTraces = false) (hL : LX p s m c b L xs G cJ) {fe ob ou B i : Nat} {f sf : Nat → Int32} {ff : Nat → Nat → Int32} {old sz len : Nat} {tx : Nat → Int32} {hsn thr : Int32} {lo : Nat → Int64} {WC MC : va_W} {H : Heap} {locs : List Loc} {ls : Array Slot} {cells slots : Nat} (hD : LD s G cJ b fe ob ou B f sf ff old sz len tx hsn thr lo WC MC H locs ls i) (hi : i + 4 ≤ L) (hLL : L ≤ 2048) (hB : B + 10000 < 700000000) (hc1 : cells + 1 ≤ 601024) (hs1 : slots + 6 ≤ 7293034)   (kk : ∀ (f sf : Nat → Int32) (ff : Nat → Nat → Int32) (old sz len : Nat) (tx : Nat → Int32) (hsn thr : Int32) (lo : Nat → Int64) (WC MC : va_W) (H : Heap) (locs : List Loc) (ls : Array Slot), LD s G cJ b fe ob ou (B + 10000) f sf ff old sz len tx hsn thr lo WC MC H locs ls i → W p l e room_1 s m #[Value.ref b] below meth c H locs (cells + 1) (slots + 6) Q (F0 m 1491 ls [])) : W p l e room_1 s m #[Value.ref b] below meth c H locs cells slots Q (F0 m 1367 ls []) := by
  obtain ⟨hx, hb, hml, hown, hts, hE, hJ0, hKJ, hXs, hbl⟩ := hL
  obtain ⟨hX, hR, hM, hP, hDD, hS, hl⟩ := hD
  have hbA : ¬ AA s b := Nat.not_le.mpr hbl
  have hJ : JX s H := hJ0.kept (fun a ha => hS.2.1 a ha (Nat.not_le.mpr ha))
  refine lv_aload_n hx hb dL_law_1367 rfl (lv_at hl 1 rfl) ?_
  have hPa : va_P G.1 vwCl (WC ++ (MC ++ [(ou, .inl (cJ, 1, .inr (.inl lo)))])) H := P_perm ((List.perm_append_comm).trans (by rw [List.append_assoc])) hP
  have hDa : va_D (AA s) (WC ++ (MC ++ [(ou, .inl (cJ, 1, .inr (.inl lo)))])) := D_perm ((List.perm_append_comm).trans (by rw [List.append_assoc])) hDD
  refine mcall (st1 := [.int (nI (nCr 100 f))]) (va_runV (As := []) (rest := []) ⟨hx, hb, hml, hown, hts⟩ (CX_lasts_ok l G hX hR (by omega) ) (cwV 0 hts gL_law_X5_lasts rfl rfl rfl (by decide +kernel) ⟨Nat.le_of_ble_eq_true rfl, Nat.le_of_ble_eq_true rfl⟩) (PJ.preV hE hJ (xs_recv hE.1 hX (P_pre hPa)) ⟨P_pre hPa, (D_pre hDa).weaken (fun _ _ _ _ => trivial)⟩) rfl rfl hl.1 rfl (lv_room (Nat.le_of_ble_eq_true rfl)) dL_law_1368 ⟨by show cells + 0 ≤ 601024; omega, by show slots + 0 ≤ 7293034; omega⟩) hS (fun q _ h => inW_D (D_pre hDa) q h) (fun q h => inW_D (D_pre hDa) q h) rfl (fun H1 locs1 hB9 hz9 hk1 hS => ?_)
  obtain ⟨WC', hX', hP1, hD1⟩ := hB9
  obtain ⟨hP2, hD2⟩ := jnF (w1 := WC') hPa hDa hk1 hP1 hD1
  generalize H1 = H at hP2 hS ⊢
  replace hJ : JX s H := hJ0.kept (fun a ha => hS.2.1 a ha (Nat.not_le.mpr ha))
  have hPb : va_P G.1 vwCl (MC ++ ([(ou, .inl (cJ, 1, .inr (.inl lo)))] ++ WC')) H := P_perm ((List.perm_append_comm).trans (by rw [List.append_assoc])) hP2
  have hDb : va_D (AA s) (MC ++ ([(ou, .inl (cJ, 1, .inr (.inl lo)))] ++ WC')) := D_perm ((List.perm_append_comm).trans (by rw [List.append_assoc])) hD2
  refine lv_aload_n hx hb dL_law_1371 rfl (lv_at hl 2 rfl) ?_
  refine mcall (st1 := [.int (nI (nCr 100 f)), .int (nI (nCr 100 f))]) (va_runV (As := []) (rest := [.int (nI (nCr 100 f))]) ⟨hx, hb, hml, hown, hts⟩ (MX_lasts_ok l G hM hR (by omega) ) (cwV 0 hts gL_law_X6_lasts rfl rfl rfl (by decide +kernel) ⟨Nat.le_of_ble_eq_true rfl, Nat.le_of_ble_eq_true rfl⟩) (PJ.preV hE hJ (rs_recv hE.1 hM (P_pre hPb)) ⟨P_pre hPb, (D_pre hDb).weaken (fun _ _ _ _ => trivial)⟩) rfl rfl hl.1 rfl (lv_room (Nat.le_of_ble_eq_true rfl)) dL_law_1372 ⟨by show _ + 0 ≤ 601024; omega, by show _ + 0 ≤ 7293034; omega⟩) hS (fun q _ h => inW_D (D_pre hDb) q h) (fun q h => inW_D (D_pre hDb) q h) rfl (fun H1 locs1 hB9 hz9 hk1 hS => ?_)
  obtain ⟨MC', hM', hP1, hD1⟩ := hB9
  obtain ⟨hP3, hD3⟩ := jnF (w1 := MC') hPb hDb hk1 hP1 hD1
  generalize H1 = H at hP3 hS ⊢
  refine lv_icmp_eq (tgt := 1491) hx hb dL_law_1375 (by decide) (fun _ => ?_) (fun h => absurd rfl h)
  refine W.widen (k := cells + 1) (n := slots + 6) (by omega) (by omega) ?_
  have hP4 : va_P G.1 vwCl ([(ou, .inl (cJ, 1, .inr (.inl lo)))] ++ (WC' ++ MC')) H := P_perm ((List.perm_append_comm).trans (by rw [List.append_assoc])) hP3
  have hD4 : va_D (AA s) ([(ou, .inl (cJ, 1, .inr (.inl lo)))] ++ (WC' ++ MC')) := D_perm ((List.perm_append_comm).trans (by rw [List.append_assoc])) hD3
  exact kk _ _ _ _ _ _ _ _ _ _ _ _ _ _ _ ⟨hX', PR_mono (by omega) hR, hM', hP4, hD4, hS, lv_sub hl [0, 1, 2, 3, 4] rfl⟩
set_option maxHeartbeats 4000000 in
set_option maxRecDepth 100000 in
theorem seg_needed_ok {p : Program} {l : Launch} {e : Env} {s : State} {m : MethodId} {below : List Frame} {meth : Method} {c : Code} {b L : Nat} {xs : Nat → Int32} {G : eG} {cJ : ClassId} {Q : State → Prop} (hlt : l.stackTraces = false) (hL : LX p s m c b L xs G cJ) {fe ob ou B i : Nat} {f sf : Nat → Int32} {ff : Nat → Nat → Int32} {old sz len : Nat} {tx : Nat → Int32} {hsn thr : Int32} {lo : Nat → Int64} {WC MC : va_W} {H : Heap} {locs : List Loc} {ls : Array Slot} {cells slots : Nat} (hD : LD s G cJ b fe ob ou B f sf ff old sz len tx hsn thr lo WC MC H locs ls i) (hi : i + 4 ≤ L) (hLL : L ≤ 2048) (hB : B + 10000 < 700000000) (hc1 : cells + 1 ≤ 601024) (hs1 : slots + 6 ≤ 7293034)   (kk : ∀ (f sf : Nat → Int32) (ff : Nat → Nat → Int32) (old sz len : Nat) (tx : Nat → Int32) (hsn thr : Int32) (lo : Nat → Int64) (WC MC : va_W) (H : Heap) (locs : List Loc) (ls : Array Slot), LD s G cJ b fe ob ou (B + 10000) f sf ff old sz len tx hsn thr lo WC MC H locs ls i → W p l e room_1 s m #[Value.ref b] below meth c H locs (cells + 1) (slots + 6) Q (F0 m 1491 ls [])) : W p l e room_1 s m #[Value.ref b] below meth c H locs cells slots Q (F0 m 1380 ls []) := by
  obtain ⟨hx, hb, hml, hown, hts, hE, hJ0, hKJ, hXs, hbl⟩ := hL
  obtain ⟨hX, hR, hM, hP, hDD, hS, hl⟩ := hD
  have hbA : ¬ AA s b := Nat.not_le.mpr hbl
  have hJ : JX s H := hJ0.kept (fun a ha => hS.2.1 a ha (Nat.not_le.mpr ha))
  refine lv_aload_n hx hb dL_law_1380 rfl (lv_at hl 1 rfl) ?_
  have hPa : va_P G.1 vwCl (WC ++ (MC ++ [(ou, .inl (cJ, 1, .inr (.inl lo)))])) H := P_perm ((List.perm_append_comm).trans (by rw [List.append_assoc])) hP
  have hDa : va_D (AA s) (WC ++ (MC ++ [(ou, .inl (cJ, 1, .inr (.inl lo)))])) := D_perm ((List.perm_append_comm).trans (by rw [List.append_assoc])) hDD
  refine mcall (st1 := [.int (fNd f)]) (va_runV (As := []) (rest := []) ⟨hx, hb, hml, hown, hts⟩ (CX_needed_ok l G hX hR (by omega) ) (cwV 0 hts gL_law_X5_needed rfl rfl rfl (by decide +kernel) ⟨Nat.le_of_ble_eq_true rfl, Nat.le_of_ble_eq_true rfl⟩) (PJ.preV hE hJ (xs_recv hE.1 hX (P_pre hPa)) ⟨P_pre hPa, (D_pre hDa).weaken (fun _ _ _ _ => trivial)⟩) rfl rfl hl.1 rfl (lv_room (Nat.le_of_ble_eq_true rfl)) dL_law_1381 ⟨by show cells + 0 ≤ 601024; omega, by show slots + 0 ≤ 7293034; omega⟩) hS (fun q _ h => inW_D (D_pre hDa) q h) (fun q h => inW_D (D_pre hDa) q h) rfl (fun H1 locs1 hB9 hz9 hk1 hS => ?_)
  obtain ⟨WC', hX', hP1, hD1⟩ := hB9
  obtain ⟨hP2, hD2⟩ := jnF (w1 := WC') hPa hDa hk1 hP1 hD1
  generalize H1 = H at hP2 hS ⊢
  replace hJ : JX s H := hJ0.kept (fun a ha => hS.2.1 a ha (Nat.not_le.mpr ha))
  have hPb : va_P G.1 vwCl (MC ++ ([(ou, .inl (cJ, 1, .inr (.inl lo)))] ++ WC')) H := P_perm ((List.perm_append_comm).trans (by rw [List.append_assoc])) hP2
  have hDb : va_D (AA s) (MC ++ ([(ou, .inl (cJ, 1, .inr (.inl lo)))] ++ WC')) := D_perm ((List.perm_append_comm).trans (by rw [List.append_assoc])) hD2
  refine lv_aload_n hx hb dL_law_1384 rfl (lv_at hl 2 rfl) ?_
  refine mcall (st1 := [.int (fNd f), .int (fNd f)]) (va_runV (As := []) (rest := [.int (fNd f)]) ⟨hx, hb, hml, hown, hts⟩ (MX_needed_ok l G hM hR (by omega) ) (cwV 0 hts gL_law_X6_needed rfl rfl rfl (by decide +kernel) ⟨Nat.le_of_ble_eq_true rfl, Nat.le_of_ble_eq_true rfl⟩) (PJ.preV hE hJ (rs_recv hE.1 hM (P_pre hPb)) ⟨P_pre hPb, (D_pre hDb).weaken (fun _ _ _ _ => trivial)⟩) rfl rfl hl.1 rfl (lv_room (Nat.le_of_ble_eq_true rfl)) dL_law_1385 ⟨by show _ + 0 ≤ 601024; omega, by show _ + 0 ≤ 7293034; omega⟩) hS (fun q _ h => inW_D (D_pre hDb) q h) (fun q h => inW_D (D_pre hDb) q h) rfl (fun H1 locs1 hB9 hz9 hk1 hS => ?_)
  obtain ⟨MC', hM', hP1, hD1⟩ := hB9
  obtain ⟨hP3, hD3⟩ := jnF (w1 := MC') hPb hDb hk1 hP1 hD1
  generalize H1 = H at hP3 hS ⊢
  refine lv_icmp_eq (tgt := 1491) hx hb dL_law_1388 (by decide) (fun _ => ?_) (fun h => absurd rfl h)
  refine W.widen (k := cells + 1) (n := slots + 6) (by omega) (by omega) ?_
  have hP4 : va_P G.1 vwCl ([(ou, .inl (cJ, 1, .inr (.inl lo)))] ++ (WC' ++ MC')) H := P_perm ((List.perm_append_comm).trans (by rw [List.append_assoc])) hP3
  have hD4 : va_D (AA s) ([(ou, .inl (cJ, 1, .inr (.inl lo)))] ++ (WC' ++ MC')) := D_perm ((List.perm_append_comm).trans (by rw [List.append_assoc])) hD3
  exact kk _ _ _ _ _ _ _ _ _ _ _ _ _ _ _ ⟨hX', PR_mono (by omega) hR, hM', hP4, hD4, hS, lv_sub hl [0, 1, 2, 3, 4] rfl⟩
set_option maxHeartbeats 4000000 in
set_option maxRecDepth 100000 in
theorem seg_wornShare {p : Program} {l : Launch} {e : Env} {s : State} {m : MethodId} {below : List Frame} {meth : Method} {c : Code} {b L : Nat} {xs : Nat → Int32} {G : eG} {cJ : ClassId} {Q : State → Prop} (hlt : l.stackTraces = false) (hL : LX p s m c b L xs G cJ) {fe ob ou B i : Nat} {f sf : Nat → Int32} {ff : Nat → Nat → Int32} {old sz len : Nat} {tx : Nat → Int32} {hsn thr : Int32} {lo : Nat → Int64} {WC MC : va_W} {H : Heap} {locs : List Loc} {ls : Array Slot} {cells slots : Nat} (hD : LD s G cJ b fe ob ou B f sf ff old sz len tx hsn thr lo WC MC H locs ls i) (hi : i + 4 ≤ L) (hLL : L ≤ 2048) (hB : B + 10000 < 700000000) (hc1 : cells + 1 ≤ 601024) (hs1 : slots + 6 ≤ 7293034)   (kk : ∀ (f sf : Nat → Int32) (ff : Nat → Nat → Int32) (old sz len : Nat) (tx : Nat → Int32) (hsn thr : Int32) (lo : Nat → Int64) (WC MC : va_W) (H : Heap) (locs : List Loc) (ls : Array Slot), LD s G cJ b fe ob ou (B + 10000) f sf ff old sz len tx hsn thr lo WC MC H locs ls i → W p l e room_1 s m #[Value.ref b] below meth c H locs (cells + 1) (slots + 6) Q (F0 m 1491 ls [])) : W p l e room_1 s m #[Value.ref b] below meth c H locs cells slots Q (F0 m 1393 ls []) := by
  obtain ⟨hx, hb, hml, hown, hts, hE, hJ0, hKJ, hXs, hbl⟩ := hL
  obtain ⟨hX, hR, hM, hP, hDD, hS, hl⟩ := hD
  have hbA : ¬ AA s b := Nat.not_le.mpr hbl
  have hJ : JX s H := hJ0.kept (fun a ha => hS.2.1 a ha (Nat.not_le.mpr ha))
  refine lv_aload_n hx hb dL_law_1393 rfl (lv_at hl 1 rfl) ?_
  have hPa : va_P G.1 vwCl (WC ++ (MC ++ [(ou, .inl (cJ, 1, .inr (.inl lo)))])) H := P_perm ((List.perm_append_comm).trans (by rw [List.append_assoc])) hP
  have hDa : va_D (AA s) (WC ++ (MC ++ [(ou, .inl (cJ, 1, .inr (.inl lo)))])) := D_perm ((List.perm_append_comm).trans (by rw [List.append_assoc])) hDD
  refine mcall (st1 := [.float (fWs f)]) (va_runV (As := []) (rest := []) ⟨hx, hb, hml, hown, hts⟩ (CX_wornShare l G hX hR (by omega) ) (cwV 0 hts gL_law_X5_wornShare rfl rfl rfl (by decide +kernel) ⟨Nat.le_of_ble_eq_true rfl, Nat.le_of_ble_eq_true rfl⟩) (PJ.preV hE hJ (xs_recv hE.1 hX (P_pre hPa)) ⟨P_pre hPa, (D_pre hDa).weaken (fun _ _ _ _ => trivial)⟩) rfl rfl hl.1 rfl (lv_room (Nat.le_of_ble_eq_true rfl)) dL_law_1394 ⟨by show cells + 0 ≤ 601024; omega, by show slots + 0 ≤ 7293034; omega⟩) hS (fun q _ h => inW_D (D_pre hDa) q h) (fun q h => inW_D (D_pre hDa) q h) rfl (fun H1 locs1 hB9 hz9 hk1 hS => ?_)
  obtain ⟨WC', hX', hP1, hD1⟩ := hB9
  obtain ⟨hP2, hD2⟩ := jnF (w1 := WC') hPa hDa hk1 hP1 hD1
  generalize H1 = H at hP2 hS ⊢
  replace hJ : JX s H := hJ0.kept (fun a ha => hS.2.1 a ha (Nat.not_le.mpr ha))
  have hPb : va_P G.1 vwCl (MC ++ ([(ou, .inl (cJ, 1, .inr (.inl lo)))] ++ WC')) H := P_perm ((List.perm_append_comm).trans (by rw [List.append_assoc])) hP2
  have hDb : va_D (AA s) (MC ++ ([(ou, .inl (cJ, 1, .inr (.inl lo)))] ++ WC')) := D_perm ((List.perm_append_comm).trans (by rw [List.append_assoc])) hD2
  refine lv_f2d hx hb dL_law_1397 (f2d_n (worn_f hR.1)) ?_
  refine lv_dstore (lv' := [(5, .double (FP.f2d (fWs f))), (0, .ref b), (1, .ref fe), (2, .ref ob), (3, .ref ou), (4, .int (nI i))]) hx hb dL_law_1398 hl (by decide) rfl (fun ls hl => ?_)
  refine lv_aload_n hx hb dL_law_1400 rfl (lv_at hl 3 rfl) ?_
  refine mcall (st1 := [.float (fWs f)]) (va_runV (As := []) (rest := []) ⟨hx, hb, hml, hown, hts⟩ (MX_wornShare_ok l G hM hR (by omega) ) (cwV 0 hts gL_law_X6_wornShare rfl rfl rfl (by decide +kernel) ⟨Nat.le_of_ble_eq_true rfl, Nat.le_of_ble_eq_true rfl⟩) (PJ.preV hE hJ (rs_recv hE.1 hM (P_pre hPb)) ⟨P_pre hPb, (D_pre hDb).weaken (fun _ _ _ _ => trivial)⟩) rfl rfl hl.1 rfl (lv_room (Nat.le_of_ble_eq_true rfl)) dL_law_1401 ⟨by show _ + 0 ≤ 601024; omega, by show _ + 0 ≤ 7293034; omega⟩) hS (fun q _ h => inW_D (D_pre hDb) q h) (fun q h => inW_D (D_pre hDb) q h) rfl (fun H1 locs1 hB9 hz9 hk1 hS => ?_)
  obtain ⟨MC', hM', hP1, hD1⟩ := hB9
  obtain ⟨hP3, hD3⟩ := jnF (w1 := MC') hPb hDb hk1 hP1 hD1
  generalize H1 = H at hP3 hS ⊢
  refine lv_f2d hx hb dL_law_1404 (f2d_n (worn_f hR.1)) ?_
  refine lv_dstore (lv' := [(7, .double (FP.f2d (fWs f))), (5, .double (FP.f2d (fWs f))), (0, .ref b), (1, .ref fe), (2, .ref ob), (3, .ref ou), (4, .int (nI i))]) hx hb dL_law_1405 hl (by decide) rfl (fun ls hl => ?_)
  refine lv_dload hx hb dL_law_1407 (lv_at hl 1 rfl) ?_
  refine lv_dload hx hb dL_law_1409 (lv_at hl 0 rfl) ?_
  refine lv_dcmp hx hb dL_law_1411 ?_
  refine lv_if_eq (tgt := 1433) hx hb dL_law_1412 (by decide) (fun _ => ?_) (fun h9 => ?_)
  · skip
    refine lv_goto (tgt := 1491) hx hb dL_law_1433 (by decide) ?_
    refine W.widen (k := cells + 1) (n := slots + 6) (by omega) (by omega) ?_
    have hP4 : va_P G.1 vwCl ([(ou, .inl (cJ, 1, .inr (.inl lo)))] ++ (WC' ++ MC')) H := P_perm ((List.perm_append_comm).trans (by rw [List.append_assoc])) hP3
    have hD4 : va_D (AA s) ([(ou, .inl (cJ, 1, .inr (.inl lo)))] ++ (WC' ++ MC')) := D_perm ((List.perm_append_comm).trans (by rw [List.append_assoc])) hD3
    exact kk _ _ _ _ _ _ _ _ _ _ _ _ _ _ _ ⟨hX', PR_mono (by omega) hR, hM', hP4, hD4, hS, lv_sub hl [2, 3, 4, 5, 6] rfl⟩
  · skip
    refine lv_dload hx hb dL_law_1415 (lv_at hl 1 rfl) ?_
    refine lv_dload hx hb dL_law_1417 (lv_at hl 1 rfl) ?_
    refine lv_dcmp hx hb dL_law_1419 ?_
    refine lv_if_eq (tgt := 1431) hx hb dL_law_1420 (by decide) (fun h => absurd h h9) (fun _ => ?_)
    refine lv_dload hx hb dL_law_1423 (lv_at hl 0 rfl) ?_
    refine lv_dload hx hb dL_law_1425 (lv_at hl 0 rfl) ?_
    refine lv_dcmp hx hb dL_law_1427 ?_
    refine lv_if_ne (tgt := 1433) hx hb dL_law_1428 (by decide) (fun _ => ?_) (fun h => absurd h h9)
    refine lv_goto (tgt := 1491) hx hb dL_law_1433 (by decide) ?_
    refine W.widen (k := cells + 1) (n := slots + 6) (by omega) (by omega) ?_
    have hP4 : va_P G.1 vwCl ([(ou, .inl (cJ, 1, .inr (.inl lo)))] ++ (WC' ++ MC')) H := P_perm ((List.perm_append_comm).trans (by rw [List.append_assoc])) hP3
    have hD4 : va_D (AA s) ([(ou, .inl (cJ, 1, .inr (.inl lo)))] ++ (WC' ++ MC')) := D_perm ((List.perm_append_comm).trans (by rw [List.append_assoc])) hD3
    exact kk _ _ _ _ _ _ _ _ _ _ _ _ _ _ _ ⟨hX', PR_mono (by omega) hR, hM', hP4, hD4, hS, lv_sub hl [2, 3, 4, 5, 6] rfl⟩
set_option maxHeartbeats 4000000 in
set_option maxRecDepth 100000 in
theorem seg_carriedShare {p : Program} {l : Launch} {e : Env} {s : State} {m : MethodId} {below : List Frame} {meth : Method} {c : Code} {b L : Nat} {xs : Nat → Int32} {G : eG} {cJ : ClassId} {Q : State → Prop} (hlt : l.stackTraces = false) (hL : LX p s m c b L xs G cJ) {fe ob ou B i : Nat} {f sf : Nat → Int32} {ff : Nat → Nat → Int32} {old sz len : Nat} {tx : Nat → Int32} {hsn thr : Int32} {lo : Nat → Int64} {WC MC : va_W} {H : Heap} {locs : List Loc} {ls : Array Slot} {cells slots : Nat} (hD : LD s G cJ b fe ob ou B f sf ff old sz len tx hsn thr lo WC MC H locs ls i) (hi : i + 4 ≤ L) (hLL : L ≤ 2048) (hB : B + 10000 < 700000000) (hc1 : cells + 1 ≤ 601024) (hs1 : slots + 6 ≤ 7293034)   (kk : ∀ (f sf : Nat → Int32) (ff : Nat → Nat → Int32) (old sz len : Nat) (tx : Nat → Int32) (hsn thr : Int32) (lo : Nat → Int64) (WC MC : va_W) (H : Heap) (locs : List Loc) (ls : Array Slot), LD s G cJ b fe ob ou (B + 10000) f sf ff old sz len tx hsn thr lo WC MC H locs ls i → W p l e room_1 s m #[Value.ref b] below meth c H locs (cells + 1) (slots + 6) Q (F0 m 1491 ls [])) : W p l e room_1 s m #[Value.ref b] below meth c H locs cells slots Q (F0 m 1436 ls []) := by
  obtain ⟨hx, hb, hml, hown, hts, hE, hJ0, hKJ, hXs, hbl⟩ := hL
  obtain ⟨hX, hR, hM, hP, hDD, hS, hl⟩ := hD
  have hbA : ¬ AA s b := Nat.not_le.mpr hbl
  have hJ : JX s H := hJ0.kept (fun a ha => hS.2.1 a ha (Nat.not_le.mpr ha))
  refine lv_aload_n hx hb dL_law_1436 rfl (lv_at hl 1 rfl) ?_
  have hPa : va_P G.1 vwCl (WC ++ (MC ++ [(ou, .inl (cJ, 1, .inr (.inl lo)))])) H := P_perm ((List.perm_append_comm).trans (by rw [List.append_assoc])) hP
  have hDa : va_D (AA s) (WC ++ (MC ++ [(ou, .inl (cJ, 1, .inr (.inl lo)))])) := D_perm ((List.perm_append_comm).trans (by rw [List.append_assoc])) hDD
  refine mcall (st1 := [.double (fCs f)]) (va_runV (As := []) (rest := []) ⟨hx, hb, hml, hown, hts⟩ (CX_carriedShare l G hX hR (by omega) ) (cwV 0 hts gL_law_X5_carriedShare rfl rfl rfl (by decide +kernel) ⟨Nat.le_of_ble_eq_true rfl, Nat.le_of_ble_eq_true rfl⟩) (PJ.preV hE hJ (xs_recv hE.1 hX (P_pre hPa)) ⟨P_pre hPa, (D_pre hDa).weaken (fun _ _ _ _ => trivial)⟩) rfl rfl hl.1 rfl (lv_room (Nat.le_of_ble_eq_true rfl)) dL_law_1437 ⟨by show cells + 0 ≤ 601024; omega, by show slots + 0 ≤ 7293034; omega⟩) hS (fun q _ h => inW_D (D_pre hDa) q h) (fun q h => inW_D (D_pre hDa) q h) rfl (fun H1 locs1 hB9 hz9 hk1 hS => ?_)
  obtain ⟨WC', hX', hP1, hD1⟩ := hB9
  obtain ⟨hP2, hD2⟩ := jnF (w1 := WC') hPa hDa hk1 hP1 hD1
  generalize H1 = H at hP2 hS ⊢
  replace hJ : JX s H := hJ0.kept (fun a ha => hS.2.1 a ha (Nat.not_le.mpr ha))
  have hPb : va_P G.1 vwCl (MC ++ ([(ou, .inl (cJ, 1, .inr (.inl lo)))] ++ WC')) H := P_perm ((List.perm_append_comm).trans (by rw [List.append_assoc])) hP2
  have hDb : va_D (AA s) (MC ++ ([(ou, .inl (cJ, 1, .inr (.inl lo)))] ++ WC')) := D_perm ((List.perm_append_comm).trans (by rw [List.append_assoc])) hD2
  refine lv_dstore (lv' := [(5, .double (fCs f)), (0, .ref b), (1, .ref fe), (2, .ref ob), (3, .ref ou), (4, .int (nI i))]) hx hb dL_law_1440 hl (by decide) rfl (fun ls hl => ?_)
  refine lv_aload_n hx hb dL_law_1442 rfl (lv_at hl 3 rfl) ?_
  refine mcall (st1 := [.double (fCs f)]) (va_runV (As := []) (rest := []) ⟨hx, hb, hml, hown, hts⟩ (MX_carriedShare_ok l G hM hR (by omega) ) (cwV 0 hts gL_law_X6_carriedShare rfl rfl rfl (by decide +kernel) ⟨Nat.le_of_ble_eq_true rfl, Nat.le_of_ble_eq_true rfl⟩) (PJ.preV hE hJ (rs_recv hE.1 hM (P_pre hPb)) ⟨P_pre hPb, (D_pre hDb).weaken (fun _ _ _ _ => trivial)⟩) rfl rfl hl.1 rfl (lv_room (Nat.le_of_ble_eq_true rfl)) dL_law_1443 ⟨by show _ + 0 ≤ 601024; omega, by show _ + 0 ≤ 7293034; omega⟩) hS (fun q _ h => inW_D (D_pre hDb) q h) (fun q h => inW_D (D_pre hDb) q h) rfl (fun H1 locs1 hB9 hz9 hk1 hS => ?_)
  obtain ⟨MC', hM', hP1, hD1⟩ := hB9
  obtain ⟨hP3, hD3⟩ := jnF (w1 := MC') hPb hDb hk1 hP1 hD1
  generalize H1 = H at hP3 hS ⊢
  refine lv_dstore (lv' := [(7, .double (fCs f)), (5, .double (fCs f)), (0, .ref b), (1, .ref fe), (2, .ref ob), (3, .ref ou), (4, .int (nI i))]) hx hb dL_law_1446 hl (by decide) rfl (fun ls hl => ?_)
  refine lv_dload hx hb dL_law_1448 (lv_at hl 1 rfl) ?_
  refine lv_dload hx hb dL_law_1450 (lv_at hl 0 rfl) ?_
  refine lv_dcmp hx hb dL_law_1452 ?_
  refine lv_if_eq (tgt := 1474) hx hb dL_law_1453 (by decide) (fun _ => ?_) (fun h9 => ?_)
  · skip
    refine lv_goto (tgt := 1491) hx hb dL_law_1474 (by decide) ?_
    refine W.widen (k := cells + 1) (n := slots + 6) (by omega) (by omega) ?_
    have hP4 : va_P G.1 vwCl ([(ou, .inl (cJ, 1, .inr (.inl lo)))] ++ (WC' ++ MC')) H := P_perm ((List.perm_append_comm).trans (by rw [List.append_assoc])) hP3
    have hD4 : va_D (AA s) ([(ou, .inl (cJ, 1, .inr (.inl lo)))] ++ (WC' ++ MC')) := D_perm ((List.perm_append_comm).trans (by rw [List.append_assoc])) hD3
    exact kk _ _ _ _ _ _ _ _ _ _ _ _ _ _ _ ⟨hX', PR_mono (by omega) hR, hM', hP4, hD4, hS, lv_sub hl [2, 3, 4, 5, 6] rfl⟩
  · skip
    refine lv_dload hx hb dL_law_1456 (lv_at hl 1 rfl) ?_
    refine lv_dload hx hb dL_law_1458 (lv_at hl 1 rfl) ?_
    refine lv_dcmp hx hb dL_law_1460 ?_
    refine lv_if_eq (tgt := 1472) hx hb dL_law_1461 (by decide) (fun h => absurd h h9) (fun _ => ?_)
    refine lv_dload hx hb dL_law_1464 (lv_at hl 0 rfl) ?_
    refine lv_dload hx hb dL_law_1466 (lv_at hl 0 rfl) ?_
    refine lv_dcmp hx hb dL_law_1468 ?_
    refine lv_if_ne (tgt := 1474) hx hb dL_law_1469 (by decide) (fun _ => ?_) (fun h => absurd h h9)
    refine lv_goto (tgt := 1491) hx hb dL_law_1474 (by decide) ?_
    refine W.widen (k := cells + 1) (n := slots + 6) (by omega) (by omega) ?_
    have hP4 : va_P G.1 vwCl ([(ou, .inl (cJ, 1, .inr (.inl lo)))] ++ (WC' ++ MC')) H := P_perm ((List.perm_append_comm).trans (by rw [List.append_assoc])) hP3
    have hD4 : va_D (AA s) ([(ou, .inl (cJ, 1, .inr (.inl lo)))] ++ (WC' ++ MC')) := D_perm ((List.perm_append_comm).trans (by rw [List.append_assoc])) hD3
    exact kk _ _ _ _ _ _ _ _ _ _ _ _ _ _ _ ⟨hX', PR_mono (by omega) hR, hM', hP4, hD4, hS, lv_sub hl [2, 3, 4, 5, 6] rfl⟩
set_option maxHeartbeats 4000000 in
set_option maxRecDepth 100000 in
theorem seg_digest_ok {p : Program} {l : Launch} {e : Env} {s : State} {m : MethodId} {below : List Frame} {meth : Method} {c : Code} {b L : Nat} {xs : Nat → Int32} {G : eG} {cJ : ClassId} {Q : State → Prop} (hlt : l.stackTraces = false) (hL : LX p s m c b L xs G cJ) {fe ob ou B i : Nat} {f sf : Nat → Int32} {ff : Nat → Nat → Int32} {old sz len : Nat} {tx : Nat → Int32} {hsn thr : Int32} {lo : Nat → Int64} {WC MC : va_W} {H : Heap} {locs : List Loc} {ls : Array Slot} {cells slots : Nat} (hD : LD s G cJ b fe ob ou B f sf ff old sz len tx hsn thr lo WC MC H locs ls i) (hi : i + 4 ≤ L) (hLL : L ≤ 2048) (hB : B + 10000 < 700000000) (hc1 : cells + 1 ≤ 601024) (hs1 : slots + 6 ≤ 7293034)   (kk : ∀ (f sf : Nat → Int32) (ff : Nat → Nat → Int32) (old sz len : Nat) (tx : Nat → Int32) (hsn thr : Int32) (lo : Nat → Int64) (WC MC : va_W) (H : Heap) (locs : List Loc) (ls : Array Slot), LD s G cJ b fe ob ou (B + 10000) f sf ff old sz len tx hsn thr lo WC MC H locs ls i → W p l e room_1 s m #[Value.ref b] below meth c H locs (cells + 1) (slots + 6) Q (F0 m 1491 ls [])) : W p l e room_1 s m #[Value.ref b] below meth c H locs cells slots Q (F0 m 1477 ls []) := by
  obtain ⟨hx, hb, hml, hown, hts, hE, hJ0, hKJ, hXs, hbl⟩ := hL
  obtain ⟨hX, hR, hM, hP, hDD, hS, hl⟩ := hD
  have hbA : ¬ AA s b := Nat.not_le.mpr hbl
  have hJ : JX s H := hJ0.kept (fun a ha => hS.2.1 a ha (Nat.not_le.mpr ha))
  refine lv_aload_n hx hb dL_law_1477 rfl (lv_at hl 1 rfl) ?_
  have hPa : va_P G.1 vwCl (WC ++ (MC ++ [(ou, .inl (cJ, 1, .inr (.inl lo)))])) H := P_perm ((List.perm_append_comm).trans (by rw [List.append_assoc])) hP
  have hDa : va_D (AA s) (WC ++ (MC ++ [(ou, .inl (cJ, 1, .inr (.inl lo)))])) := D_perm ((List.perm_append_comm).trans (by rw [List.append_assoc])) hDD
  refine mcall (st1 := [.long (dgF f sz len tx hsn)]) (va_runV (As := []) (rest := []) ⟨hx, hb, hml, hown, hts⟩ (CX_digest_ok l G hX hR (by omega) ) (cwV 0 hts gL_law_X5_digest rfl rfl rfl (by decide +kernel) ⟨Nat.le_of_ble_eq_true rfl, Nat.le_of_ble_eq_true rfl⟩) (PJ.preV hE hJ (xs_recv hE.1 hX (P_pre hPa)) ⟨P_pre hPa, (D_pre hDa).weaken (fun _ _ _ _ => trivial)⟩) rfl rfl hl.1 rfl (lv_room (Nat.le_of_ble_eq_true rfl)) dL_law_1478 ⟨by show cells + 0 ≤ 601024; omega, by show slots + 0 ≤ 7293034; omega⟩) hS (fun q _ h => inW_D (D_pre hDa) q h) (fun q h => inW_D (D_pre hDa) q h) rfl (fun H1 locs1 hB9 hz9 hk1 hS => ?_)
  obtain ⟨WC', hX', hP1, hD1⟩ := hB9
  obtain ⟨hP2, hD2⟩ := jnF (w1 := WC') hPa hDa hk1 hP1 hD1
  generalize H1 = H at hP2 hS ⊢
  replace hJ : JX s H := hJ0.kept (fun a ha => hS.2.1 a ha (Nat.not_le.mpr ha))
  have hPb : va_P G.1 vwCl (MC ++ ([(ou, .inl (cJ, 1, .inr (.inl lo)))] ++ WC')) H := P_perm ((List.perm_append_comm).trans (by rw [List.append_assoc])) hP2
  have hDb : va_D (AA s) (MC ++ ([(ou, .inl (cJ, 1, .inr (.inl lo)))] ++ WC')) := D_perm ((List.perm_append_comm).trans (by rw [List.append_assoc])) hD2
  refine lv_aload_n hx hb dL_law_1481 rfl (lv_at hl 2 rfl) ?_
  refine mcall (st1 := [.long (dgF f sz len tx hsn), .long (dgF f sz len tx hsn)]) (va_runV (As := []) (rest := [.long (dgF f sz len tx hsn)]) ⟨hx, hb, hml, hown, hts⟩ (MX_digest_ok l G hM hR (by omega) ) (cwV 0 hts gL_law_X6_digest rfl rfl rfl (by decide +kernel) ⟨Nat.le_of_ble_eq_true rfl, Nat.le_of_ble_eq_true rfl⟩) (PJ.preV hE hJ (rs_recv hE.1 hM (P_pre hPb)) ⟨P_pre hPb, (D_pre hDb).weaken (fun _ _ _ _ => trivial)⟩) rfl rfl hl.1 rfl (lv_room (Nat.le_of_ble_eq_true rfl)) dL_law_1482 ⟨by show _ + 0 ≤ 601024; omega, by show _ + 0 ≤ 7293034; omega⟩) hS (fun q _ h => inW_D (D_pre hDb) q h) (fun q h => inW_D (D_pre hDb) q h) rfl (fun H1 locs1 hB9 hz9 hk1 hS => ?_)
  obtain ⟨MC', hM', hP1, hD1⟩ := hB9
  obtain ⟨hP3, hD3⟩ := jnF (w1 := MC') hPb hDb hk1 hP1 hD1
  generalize H1 = H at hP3 hS ⊢
  refine lv_lcmpE hx hb dL_law_1485 ?_
  refine if_eqN (tgt := 1491) hx hb (by decide) dL_law_1486 (by decide) (fun _ => ?_) (fun h => absurd rfl h)
  refine W.widen (k := cells + 1) (n := slots + 6) (by omega) (by omega) ?_
  have hP4 : va_P G.1 vwCl ([(ou, .inl (cJ, 1, .inr (.inl lo)))] ++ (WC' ++ MC')) H := P_perm ((List.perm_append_comm).trans (by rw [List.append_assoc])) hP3
  have hD4 : va_D (AA s) ([(ou, .inl (cJ, 1, .inr (.inl lo)))] ++ (WC' ++ MC')) := D_perm ((List.perm_append_comm).trans (by rw [List.append_assoc])) hD3
  exact kk _ _ _ _ _ _ _ _ _ _ _ _ _ _ _ ⟨hX', PR_mono (by omega) hR, hM', hP4, hD4, hS, lv_sub hl [0, 1, 2, 3, 4] rfl⟩

set_option maxHeartbeats 4000000 in
set_option maxRecDepth 100000 in
theorem seg_current_ok {p : Program} {l : Launch} {e : Env} {s : State} {m : MethodId} {below : List Frame} {meth : Method} {c : Code} {b L : Nat} {xs : Nat → Int32} {G : eG} {cJ : ClassId} {Q : State → Prop} (hlt : l.stackTraces = false) (hL : LX p s m c b L xs G cJ) {fe ob ou B i : Nat} {f sf : Nat → Int32} {ff : Nat → Nat → Int32} {old sz len : Nat} {tx : Nat → Int32} {hsn thr : Int32} {lo : Nat → Int64} {WC MC : va_W} {H : Heap} {locs : List Loc} {ls : Array Slot} {cells slots : Nat} (hD : LD s G cJ b fe ob ou B f sf ff old sz len tx hsn thr lo WC MC H locs ls i) (hi : i + 4 ≤ L) (hLL : L ≤ 2048) (hB : B + 10000 < 700000000) (hc1 : cells + 1 ≤ 601024) (hs1 : slots + 6 ≤ 7293034) (h : Nat) (q : Nat) (hh : h < 24) (hq : q ≤ 40) (e1 : xs (i + 1) = nI h) (e2 : xs (i + 2) = nI q) (kk : ∀ (f sf : Nat → Int32) (ff : Nat → Nat → Int32) (old sz len : Nat) (tx : Nat → Int32) (hsn thr : Int32) (lo : Nat → Int64) (WC MC : va_W) (H : Heap) (locs : List Loc) (ls : Array Slot), LD s G cJ b fe ob ou (B + 10000) f sf ff old sz len tx hsn thr lo WC MC H locs ls i → W p l e room_1 s m #[Value.ref b] below meth c H locs (cells + 1) (slots + 6) Q (F0 m 1491 ls [])) : W p l e room_1 s m #[Value.ref b] below meth c H locs cells slots Q (F0 m 176 ls []) := by
  obtain ⟨hx, hb, hml, hown, hts, hE, hJ0, hKJ, hXs, hbl⟩ := hL
  obtain ⟨hX, hR, hM, hP, hDD, hS, hl⟩ := hD
  have hbA : ¬ AA s b := Nat.not_le.mpr hbl
  have hJ : JX s H := hJ0.kept (fun a ha => hS.2.1 a ha (Nat.not_le.mpr ha))
  refine lv_aload_n hx hb dL_law_176 rfl (lv_at hl 1 rfl) ?_
  refine lv_aload_n hx hb dL_law_177 rfl (lv_at hl 0 rfl) ?_
  refine lv_iload hx hb dL_law_178 (lv_at hl 4 rfl) ?_
  refine lv_iconst (v := nI 1) hx hb dL_law_180 (by decide +kernel) ?_
  refine iaddN hx hb dL_law_181 ?_
  refine va_sld hx hb hXs hbl hbA hS (vp_in_nI (n := i + 1) (by omega) (by omega)) dL_law_182 ?_
  refine tS (st' := [.int (nI h), .ref fe]) (by rw [nI_clamp (by omega), e1]) ?_
  refine lv_aload_n hx hb dL_law_183 rfl (lv_at hl 0 rfl) ?_
  refine lv_iload hx hb dL_law_184 (lv_at hl 4 rfl) ?_
  refine lv_iconst (v := nI 2) hx hb dL_law_186 (by decide +kernel) ?_
  refine iaddN hx hb dL_law_187 ?_
  refine va_sld hx hb hXs hbl hbA hS (vp_in_nI (n := i + 2) (by omega) (by omega)) dL_law_188 ?_
  refine tS (st' := [.int (nI q), .int (nI h), .ref fe]) (by rw [nI_clamp (by omega), e2]) ?_
  refine lv_aload_n hx hb dL_law_189 rfl (lv_at hl 3 rfl) ?_
  have hPa : va_P G.1 vwCl (([(ou, .inl (cJ, 1, .inr (.inl lo)))] ++ WC) ++ MC) H := by rw [List.append_assoc]; exact hP
  have hDa : va_D (AA s) (([(ou, .inl (cJ, 1, .inr (.inl lo)))] ++ WC) ++ MC) := by rw [List.append_assoc]; exact hDD
  refine mcall (st1 := [.int (nI 0)]) (vx_runSW (As := [.ref fe, .int (nI h), .int (nI q), .ref ou]) (rest := []) ⟨hx, hb, hml, hown, hts⟩ (CL_current_ok l G cJ hX hR (by omega) h q hh hq) (vx_cwSW 4 hts gL_law_L_current rfl rfl rfl (by decide +kernel) ⟨Nat.le_of_ble_eq_true rfl, Nat.le_of_ble_eq_true rfl⟩) (PL.preS hE hJ hKJ ⟨P_pre hPa, (D_pre hDa).weaken (fun _ _ _ _ => trivial)⟩) rfl rfl hl.1 rfl (lv_room (Nat.le_of_ble_eq_true rfl)) dL_law_190 ⟨by show cells + 0 ≤ 601024; omega, by show slots + 0 ≤ 7293034; omega⟩) hS (fun q _ h => inW_D (D_pre hDa) q h) (fun q h => inW_D (D_pre hDa) q h) rfl (fun H1 locs1 hB9 hz9 hk1 hS => ?_)
  obtain ⟨WC', hX', hP1, hD1⟩ := hB9
  obtain ⟨hP2, hD2⟩ := jnF (w1 := [(ou, .inl (cJ, 1, .inr (.inl (vp_updL lo 0 (((f (3 + h))).toInt64)))))] ++ WC') hPa hDa hk1 hP1 hD1
  generalize H1 = H at hP2 hS ⊢
  replace hJ : JX s H := hJ0.kept (fun a ha => hS.2.1 a ha (Nat.not_le.mpr ha))
  have hPb : va_P G.1 vwCl (MC ++ ([(ou, .inl (cJ, 1, .inr (.inl (vp_updL lo 0 (((f (3 + h))).toInt64)))))] ++ WC')) H := P_perm List.perm_append_comm hP2
  have hDb : va_D (AA s) (MC ++ ([(ou, .inl (cJ, 1, .inr (.inl (vp_updL lo 0 (((f (3 + h))).toInt64)))))] ++ WC')) := D_perm List.perm_append_comm hD2
  refine lv_istore (lv' := [(5, .int (nI 0)), (0, .ref b), (1, .ref fe), (2, .ref ob), (3, .ref ou), (4, .int (nI i))]) hx hb dL_law_193 hl (by decide) rfl (fun ls hl => ?_)
  refine lv_aload_n hx hb dL_law_195 rfl (lv_at hl 3 rfl) ?_
  refine lv_aload_n hx hb dL_law_196 rfl (lv_at hl 1 rfl) ?_
  refine lv_iload hx hb dL_law_197 (lv_at hl 5 rfl) ?_
  refine lv_iconst (v := nI 1) hx hb dL_law_199 (by decide +kernel) ?_
  refine iaddN hx hb dL_law_200 ?_
  refine va_sld hx hb hXs hbl hbA hS (vp_in_nI (n := i + 1) (by omega) (by omega)) dL_law_201 ?_
  refine tS (st' := [.int (nI h), .ref ob]) (by rw [nI_clamp (by omega), e1]) ?_
  refine lv_aload_n hx hb dL_law_202 rfl (lv_at hl 1 rfl) ?_
  refine lv_iload hx hb dL_law_203 (lv_at hl 5 rfl) ?_
  refine lv_iconst (v := nI 2) hx hb dL_law_205 (by decide +kernel) ?_
  refine iaddN hx hb dL_law_206 ?_
  refine va_sld hx hb hXs hbl hbA hS (vp_in_nI (n := i + 2) (by omega) (by omega)) dL_law_207 ?_
  refine tS (st' := [.int (nI q), .int (nI h), .ref ob]) (by rw [nI_clamp (by omega), e2]) ?_
  refine mcall (st1 := [.int (f (3 + h))]) (va_runV (As := [.int (nI h), .int (nI q)]) (rest := []) ⟨hx, hb, hml, hown, hts⟩ (MX_current_ok l G hM hR (by omega) h q hh hq) (cwV 2 hts gL_law_X6_current rfl rfl rfl (by decide +kernel) ⟨Nat.le_of_ble_eq_true rfl, Nat.le_of_ble_eq_true rfl⟩) (PJ.preV hE hJ (rs_recv hE.1 hM (P_pre hPb)) ⟨P_pre hPb, (D_pre hDb).weaken (fun _ _ _ _ => trivial)⟩) rfl rfl hl.1 rfl (lv_room (Nat.le_of_ble_eq_true rfl)) dL_law_208 ⟨by show _ + 0 ≤ 601024; omega, by show _ + 0 ≤ 7293034; omega⟩) hS (fun q _ h => inW_D (D_pre hDb) q h) (fun q h => inW_D (D_pre hDb) q h) rfl (fun H1 locs1 hB9 hz9 hk1 hS => ?_)
  obtain ⟨MC', hM', hP1, hD1⟩ := hB9
  obtain ⟨hP3, hD3⟩ := jnF (w1 := MC') hPb hDb hk1 hP1 hD1
  generalize H1 = H at hP3 hS ⊢
  refine lv_istore (lv' := [(6, .int (f (3 + h))), (5, .int (nI 0)), (0, .ref b), (1, .ref fe), (2, .ref ob), (3, .ref ou), (4, .int (nI i))]) hx hb dL_law_211 hl (by decide) rfl (fun ls hl => ?_)
  refine lv_aload_n hx hb dL_law_213 rfl (lv_at hl 4 rfl) ?_
  refine pcall (st1 := [.int (nI 0)]) (va_runV (As := []) (rest := []) ⟨hx, hb, hml, hown, hts⟩ (MX_thrown l G hM') (cwV 0 hts gL_law_X6_thrown rfl rfl rfl (by decide +kernel) ⟨Nat.le_of_ble_eq_true rfl, Nat.le_of_ble_eq_true rfl⟩) (PC.preV hE (rs_recv hE.1 hM' (P_pre hP3)) (P_pre hP3)) rfl rfl hl.1 rfl (lv_room (Nat.le_of_ble_eq_true rfl)) dL_law_214 ⟨by show _ + 0 ≤ 601024; omega, by show _ + 0 ≤ 7293034; omega⟩) rfl ?_
  refine lv_iload hx hb dL_law_217 (lv_at hl 1 rfl) ?_
  refine icmp_eqN (tgt := 224) hx hb (by decide) (by decide) dL_law_219 (by decide) (fun _ => ?_) (fun h => absurd rfl h)
  refine lv_iload hx hb dL_law_224 (lv_at hl 1 rfl) ?_
  refine if_neN (tgt := 241) hx hb (by decide) dL_law_226 (by decide) (fun h => absurd rfl h) (fun _ => ?_)
  refine lv_aload_n hx hb dL_law_229 rfl (lv_at hl 5 rfl) ?_
  refine lv_iconst (v := nI 0) hx hb dL_law_230 (by decide +kernel) ?_
  refine va_lald hx hb hKJ (P_pre (P_perm ((List.perm_append_comm).trans (by rw [List.append_assoc])) hP3)) 0 0 rfl rfl (vp_in_nI (n := 0) (N := 1) (by decide) (by decide)) dL_law_231 ?_
  refine tS (st' := [.long (((f (3 + h))).toInt64)]) (by rw [nI_clamp (by decide), pk_uLs]) ?_
  refine lv_iload hx hb dL_law_232 (lv_at hl 0 rfl) ?_
  refine lv_i2l (v := ((f (3 + h))).toInt64) hx hb dL_law_234 rfl ?_
  refine lv_lcmpE hx hb dL_law_235 ?_
  refine if_eqN (tgt := 241) hx hb (by decide) dL_law_236 (by decide) (fun _ => ?_) (fun h => absurd rfl h)
  refine lv_goto (tgt := 1491) hx hb dL_law_241 (by decide) ?_
  refine W.widen (k := cells + 1) (n := slots + 6) (by omega) (by omega) ?_
  have hP4 : va_P G.1 vwCl ([(ou, .inl (cJ, 1, .inr (.inl (vp_updL lo 0 (((f (3 + h))).toInt64)))))] ++ (WC' ++ MC')) H := P_perm ((List.perm_append_comm).trans (by rw [List.append_assoc])) hP3
  have hD4 : va_D (AA s) ([(ou, .inl (cJ, 1, .inr (.inl (vp_updL lo 0 (((f (3 + h))).toInt64)))))] ++ (WC' ++ MC')) := D_perm ((List.perm_append_comm).trans (by rw [List.append_assoc])) hD3
  exact kk _ _ _ _ _ _ _ _ _ _ _ _ _ _ _ ⟨hX', PR_sav (by omega) hR (okf_mono (by omega) (okf_cur hR.1 hh hq)), hM', hP4, hD4, hS, lv_sub hl [2, 3, 4, 5, 6] rfl⟩
set_option maxHeartbeats 4000000 in
set_option maxRecDepth 100000 in
theorem seg_current_e1 {p : Program} {l : Launch} {e : Env} {s : State} {m : MethodId} {below : List Frame} {meth : Method} {c : Code} {b L : Nat} {xs : Nat → Int32} {G : eG} {cJ : ClassId} {Q : State → Prop} (hlt : l.stackTraces = false) (hL : LX p s m c b L xs G cJ) {fe ob ou B i : Nat} {f sf : Nat → Int32} {ff : Nat → Nat → Int32} {old sz len : Nat} {tx : Nat → Int32} {hsn thr : Int32} {lo : Nat → Int64} {WC MC : va_W} {H : Heap} {locs : List Loc} {ls : Array Slot} {cells slots : Nat} (hD : LD s G cJ b fe ob ou B f sf ff old sz len tx hsn thr lo WC MC H locs ls i) (hi : i + 4 ≤ L) (hLL : L ≤ 2048) (hB : B + 10000 < 700000000) (hc1 : cells + 1 ≤ 601024) (hs1 : slots + 6 ≤ 7293034) (hNo : ¬ (nI 0 ≤ (xs (i + 1)) ∧ (xs (i + 1)) ≤ nI 23))  (kk : ∀ (f sf : Nat → Int32) (ff : Nat → Nat → Int32) (old sz len : Nat) (tx : Nat → Int32) (hsn thr : Int32) (lo : Nat → Int64) (WC MC : va_W) (H : Heap) (locs : List Loc) (ls : Array Slot), LD s G cJ b fe ob ou (B + 10000) f sf ff old sz len tx hsn thr lo WC MC H locs ls i → W p l e room_1 s m #[Value.ref b] below meth c H locs (cells + 1) (slots + 6) Q (F0 m 1491 ls [])) : W p l e room_1 s m #[Value.ref b] below meth c H locs cells slots Q (F0 m 176 ls []) := by
  obtain ⟨hx, hb, hml, hown, hts, hE, hJ0, hKJ, hXs, hbl⟩ := hL
  obtain ⟨hX, hR, hM, hP, hDD, hS, hl⟩ := hD
  have hbA : ¬ AA s b := Nat.not_le.mpr hbl
  have hJ : JX s H := hJ0.kept (fun a ha => hS.2.1 a ha (Nat.not_le.mpr ha))
  refine lv_aload_n hx hb dL_law_176 rfl (lv_at hl 1 rfl) ?_
  refine lv_aload_n hx hb dL_law_177 rfl (lv_at hl 0 rfl) ?_
  refine lv_iload hx hb dL_law_178 (lv_at hl 4 rfl) ?_
  refine lv_iconst (v := nI 1) hx hb dL_law_180 (by decide +kernel) ?_
  refine iaddN hx hb dL_law_181 ?_
  refine va_sld hx hb hXs hbl hbA hS (vp_in_nI (n := i + 1) (by omega) (by omega)) dL_law_182 ?_
  refine tS (st' := [.int (xs (i + 1)), .ref fe]) (by rw [nI_clamp (by omega)]) ?_
  refine lv_aload_n hx hb dL_law_183 rfl (lv_at hl 0 rfl) ?_
  refine lv_iload hx hb dL_law_184 (lv_at hl 4 rfl) ?_
  refine lv_iconst (v := nI 2) hx hb dL_law_186 (by decide +kernel) ?_
  refine iaddN hx hb dL_law_187 ?_
  refine va_sld hx hb hXs hbl hbA hS (vp_in_nI (n := i + 2) (by omega) (by omega)) dL_law_188 ?_
  refine tS (st' := [.int (xs (i + 2)), .int (xs (i + 1)), .ref fe]) (by rw [nI_clamp (by omega)]) ?_
  refine lv_aload_n hx hb dL_law_189 rfl (lv_at hl 3 rfl) ?_
  have hPw : va_P G.1 vwCl (WC ++ MC) H := P_pre (P_perm List.perm_append_comm hP)
  have hDw : va_D (AA s) (WC ++ MC) := D_pre (D_perm List.perm_append_comm hDD)
  refine mcall (st1 := [.int (nI 1)]) (vx_runSW (As := [.ref fe, .int (xs (i + 1)), .int (xs (i + 2)), .ref ou]) (rest := []) ⟨hx, hb, hml, hown, hts⟩ (CL_current_e1 l hlt G cJ hX hR (by omega) (xs (i + 1)) (xs (i + 2)) hNo) (vx_cwSW 4 hts gL_law_L_current rfl rfl rfl (by decide +kernel) ⟨Nat.le_of_ble_eq_true rfl, Nat.le_of_ble_eq_true rfl⟩) (PL.preS hE hJ hKJ ⟨P_pre hPw, (D_pre hDw).weaken (fun _ _ _ _ => trivial)⟩) rfl rfl hl.1 rfl (lv_room (Nat.le_of_ble_eq_true rfl)) dL_law_190 ⟨by show cells + 1 ≤ 601024; omega, by show slots + 6 ≤ 7293034; omega⟩) hS (fun q _ h => (h : False).elim) (fun q h => (h : False).elim) rfl (fun H1 locs1 hB9 hz9 hk1 hS => ?_)
  have hP2 := P_kept hP (fun a ha => hk1 a ha (fun h => h))
  generalize H1 = H at hP2 hS ⊢
  replace hJ : JX s H := hJ0.kept (fun a ha => hS.2.1 a ha (Nat.not_le.mpr ha))
  have hPa : va_P G.1 vwCl (([(ou, .inl (cJ, 1, .inr (.inl lo)))] ++ WC) ++ MC) H := by rw [List.append_assoc]; exact hP2
  have hDa : va_D (AA s) (([(ou, .inl (cJ, 1, .inr (.inl lo)))] ++ WC) ++ MC) := by rw [List.append_assoc]; exact hDD
  have hPb : va_P G.1 vwCl (MC ++ ([(ou, .inl (cJ, 1, .inr (.inl lo)))] ++ WC)) H := P_perm List.perm_append_comm hPa
  have hDb : va_D (AA s) (MC ++ ([(ou, .inl (cJ, 1, .inr (.inl lo)))] ++ WC)) := D_perm List.perm_append_comm hDa
  refine lv_istore (lv' := [(5, .int (nI 1)), (0, .ref b), (1, .ref fe), (2, .ref ob), (3, .ref ou), (4, .int (nI i))]) hx hb dL_law_193 hl (by decide) rfl (fun ls hl => ?_)
  refine lv_aload_n hx hb dL_law_195 rfl (lv_at hl 3 rfl) ?_
  refine lv_aload_n hx hb dL_law_196 rfl (lv_at hl 1 rfl) ?_
  refine lv_iload hx hb dL_law_197 (lv_at hl 5 rfl) ?_
  refine lv_iconst (v := nI 1) hx hb dL_law_199 (by decide +kernel) ?_
  refine iaddN hx hb dL_law_200 ?_
  refine va_sld hx hb hXs hbl hbA hS (vp_in_nI (n := i + 1) (by omega) (by omega)) dL_law_201 ?_
  refine tS (st' := [.int (xs (i + 1)), .ref ob]) (by rw [nI_clamp (by omega)]) ?_
  refine lv_aload_n hx hb dL_law_202 rfl (lv_at hl 1 rfl) ?_
  refine lv_iload hx hb dL_law_203 (lv_at hl 5 rfl) ?_
  refine lv_iconst (v := nI 2) hx hb dL_law_205 (by decide +kernel) ?_
  refine iaddN hx hb dL_law_206 ?_
  refine va_sld hx hb hXs hbl hbA hS (vp_in_nI (n := i + 2) (by omega) (by omega)) dL_law_207 ?_
  refine tS (st' := [.int (xs (i + 2)), .int (xs (i + 1)), .ref ob]) (by rw [nI_clamp (by omega)]) ?_
  refine mcall (st1 := [.int (nI 0)]) (va_runV (As := [.int (xs (i + 1)), .int (xs (i + 2))]) (rest := []) ⟨hx, hb, hml, hown, hts⟩ (MX_current_e1 l G hM hR (by omega) (xs (i + 1)) (xs (i + 2)) hNo) (cwV 2 hts gL_law_X6_current rfl rfl rfl (by decide +kernel) ⟨Nat.le_of_ble_eq_true rfl, Nat.le_of_ble_eq_true rfl⟩) (PJ.preV hE hJ (rs_recv hE.1 hM (P_pre hPb)) ⟨P_pre hPb, (D_pre hDb).weaken (fun _ _ _ _ => trivial)⟩) rfl rfl hl.1 rfl (lv_room (Nat.le_of_ble_eq_true rfl)) dL_law_208 ⟨by show _ + 0 ≤ 601024; omega, by show _ + 0 ≤ 7293034; omega⟩) hS (fun q _ h => inW_D (D_pre hDb) q h) (fun q h => inW_D (D_pre hDb) q h) rfl (fun H1 locs1 hB9 hz9 hk1 hS => ?_)
  obtain ⟨MC', hM', hP1, hD1⟩ := hB9
  obtain ⟨hP3, hD3⟩ := jnF (w1 := MC') hPb hDb hk1 hP1 hD1
  generalize H1 = H at hP3 hS ⊢
  refine lv_istore (lv' := [(6, .int (nI 0)), (5, .int (nI 1)), (0, .ref b), (1, .ref fe), (2, .ref ob), (3, .ref ou), (4, .int (nI i))]) hx hb dL_law_211 hl (by decide) rfl (fun ls hl => ?_)
  refine lv_aload_n hx hb dL_law_213 rfl (lv_at hl 4 rfl) ?_
  refine pcall (st1 := [.int (nI 1)]) (va_runV (As := []) (rest := []) ⟨hx, hb, hml, hown, hts⟩ (MX_thrown l G hM') (cwV 0 hts gL_law_X6_thrown rfl rfl rfl (by decide +kernel) ⟨Nat.le_of_ble_eq_true rfl, Nat.le_of_ble_eq_true rfl⟩) (PC.preV hE (rs_recv hE.1 hM' (P_pre hP3)) (P_pre hP3)) rfl rfl hl.1 rfl (lv_room (Nat.le_of_ble_eq_true rfl)) dL_law_214 ⟨by show _ + 0 ≤ 601024; omega, by show _ + 0 ≤ 7293034; omega⟩) rfl ?_
  refine lv_iload hx hb dL_law_217 (lv_at hl 1 rfl) ?_
  refine icmp_eqN (tgt := 224) hx hb (by decide) (by decide) dL_law_219 (by decide) (fun _ => ?_) (fun h => absurd rfl h)
  refine lv_iload hx hb dL_law_224 (lv_at hl 1 rfl) ?_
  refine if_neN (tgt := 241) hx hb (by decide) dL_law_226 (by decide) (fun _ => ?_) (fun h => absurd h (by decide))
  refine lv_goto (tgt := 1491) hx hb dL_law_241 (by decide) ?_
  refine W.widen (k := cells + 1) (n := slots + 6) (by omega) (by omega) ?_
  have hP4 : va_P G.1 vwCl ([(ou, .inl (cJ, 1, .inr (.inl lo)))] ++ (WC ++ MC')) H := P_perm ((List.perm_append_comm).trans (by rw [List.append_assoc])) hP3
  have hD4 : va_D (AA s) ([(ou, .inl (cJ, 1, .inr (.inl lo)))] ++ (WC ++ MC')) := D_perm ((List.perm_append_comm).trans (by rw [List.append_assoc])) hD3
  exact kk _ _ _ _ _ _ _ _ _ _ _ _ _ _ _ ⟨hX, PR_mono (by omega) hR, hM', hP4, hD4, hS, lv_sub hl [2, 3, 4, 5, 6] rfl⟩
set_option maxHeartbeats 4000000 in
set_option maxRecDepth 100000 in
theorem seg_current_e2 {p : Program} {l : Launch} {e : Env} {s : State} {m : MethodId} {below : List Frame} {meth : Method} {c : Code} {b L : Nat} {xs : Nat → Int32} {G : eG} {cJ : ClassId} {Q : State → Prop} (hlt : l.stackTraces = false) (hL : LX p s m c b L xs G cJ) {fe ob ou B i : Nat} {f sf : Nat → Int32} {ff : Nat → Nat → Int32} {old sz len : Nat} {tx : Nat → Int32} {hsn thr : Int32} {lo : Nat → Int64} {WC MC : va_W} {H : Heap} {locs : List Loc} {ls : Array Slot} {cells slots : Nat} (hD : LD s G cJ b fe ob ou B f sf ff old sz len tx hsn thr lo WC MC H locs ls i) (hi : i + 4 ≤ L) (hLL : L ≤ 2048) (hB : B + 10000 < 700000000) (hc1 : cells + 1 ≤ 601024) (hs1 : slots + 6 ≤ 7293034) (h1 : nI 0 ≤ (xs (i + 1)) ∧ (xs (i + 1)) ≤ nI 23) (hNo : ¬ (nI 0 ≤ (xs (i + 2)) ∧ (xs (i + 2)) ≤ nI 40))  (kk : ∀ (f sf : Nat → Int32) (ff : Nat → Nat → Int32) (old sz len : Nat) (tx : Nat → Int32) (hsn thr : Int32) (lo : Nat → Int64) (WC MC : va_W) (H : Heap) (locs : List Loc) (ls : Array Slot), LD s G cJ b fe ob ou (B + 10000) f sf ff old sz len tx hsn thr lo WC MC H locs ls i → W p l e room_1 s m #[Value.ref b] below meth c H locs (cells + 1) (slots + 6) Q (F0 m 1491 ls [])) : W p l e room_1 s m #[Value.ref b] below meth c H locs cells slots Q (F0 m 176 ls []) := by
  obtain ⟨hx, hb, hml, hown, hts, hE, hJ0, hKJ, hXs, hbl⟩ := hL
  obtain ⟨hX, hR, hM, hP, hDD, hS, hl⟩ := hD
  have hbA : ¬ AA s b := Nat.not_le.mpr hbl
  have hJ : JX s H := hJ0.kept (fun a ha => hS.2.1 a ha (Nat.not_le.mpr ha))
  refine lv_aload_n hx hb dL_law_176 rfl (lv_at hl 1 rfl) ?_
  refine lv_aload_n hx hb dL_law_177 rfl (lv_at hl 0 rfl) ?_
  refine lv_iload hx hb dL_law_178 (lv_at hl 4 rfl) ?_
  refine lv_iconst (v := nI 1) hx hb dL_law_180 (by decide +kernel) ?_
  refine iaddN hx hb dL_law_181 ?_
  refine va_sld hx hb hXs hbl hbA hS (vp_in_nI (n := i + 1) (by omega) (by omega)) dL_law_182 ?_
  refine tS (st' := [.int (xs (i + 1)), .ref fe]) (by rw [nI_clamp (by omega)]) ?_
  refine lv_aload_n hx hb dL_law_183 rfl (lv_at hl 0 rfl) ?_
  refine lv_iload hx hb dL_law_184 (lv_at hl 4 rfl) ?_
  refine lv_iconst (v := nI 2) hx hb dL_law_186 (by decide +kernel) ?_
  refine iaddN hx hb dL_law_187 ?_
  refine va_sld hx hb hXs hbl hbA hS (vp_in_nI (n := i + 2) (by omega) (by omega)) dL_law_188 ?_
  refine tS (st' := [.int (xs (i + 2)), .int (xs (i + 1)), .ref fe]) (by rw [nI_clamp (by omega)]) ?_
  refine lv_aload_n hx hb dL_law_189 rfl (lv_at hl 3 rfl) ?_
  have hPw : va_P G.1 vwCl (WC ++ MC) H := P_pre (P_perm List.perm_append_comm hP)
  have hDw : va_D (AA s) (WC ++ MC) := D_pre (D_perm List.perm_append_comm hDD)
  refine mcall (st1 := [.int (nI 2)]) (vx_runSW (As := [.ref fe, .int (xs (i + 1)), .int (xs (i + 2)), .ref ou]) (rest := []) ⟨hx, hb, hml, hown, hts⟩ (CL_current_e2 l hlt G cJ hX hR (by omega) (xs (i + 1)) (xs (i + 2)) h1 hNo) (vx_cwSW 4 hts gL_law_L_current rfl rfl rfl (by decide +kernel) ⟨Nat.le_of_ble_eq_true rfl, Nat.le_of_ble_eq_true rfl⟩) (PL.preS hE hJ hKJ ⟨P_pre hPw, (D_pre hDw).weaken (fun _ _ _ _ => trivial)⟩) rfl rfl hl.1 rfl (lv_room (Nat.le_of_ble_eq_true rfl)) dL_law_190 ⟨by show cells + 1 ≤ 601024; omega, by show slots + 6 ≤ 7293034; omega⟩) hS (fun q _ h => (h : False).elim) (fun q h => (h : False).elim) rfl (fun H1 locs1 hB9 hz9 hk1 hS => ?_)
  have hP2 := P_kept hP (fun a ha => hk1 a ha (fun h => h))
  generalize H1 = H at hP2 hS ⊢
  replace hJ : JX s H := hJ0.kept (fun a ha => hS.2.1 a ha (Nat.not_le.mpr ha))
  have hPa : va_P G.1 vwCl (([(ou, .inl (cJ, 1, .inr (.inl lo)))] ++ WC) ++ MC) H := by rw [List.append_assoc]; exact hP2
  have hDa : va_D (AA s) (([(ou, .inl (cJ, 1, .inr (.inl lo)))] ++ WC) ++ MC) := by rw [List.append_assoc]; exact hDD
  have hPb : va_P G.1 vwCl (MC ++ ([(ou, .inl (cJ, 1, .inr (.inl lo)))] ++ WC)) H := P_perm List.perm_append_comm hPa
  have hDb : va_D (AA s) (MC ++ ([(ou, .inl (cJ, 1, .inr (.inl lo)))] ++ WC)) := D_perm List.perm_append_comm hDa
  refine lv_istore (lv' := [(5, .int (nI 2)), (0, .ref b), (1, .ref fe), (2, .ref ob), (3, .ref ou), (4, .int (nI i))]) hx hb dL_law_193 hl (by decide) rfl (fun ls hl => ?_)
  refine lv_aload_n hx hb dL_law_195 rfl (lv_at hl 3 rfl) ?_
  refine lv_aload_n hx hb dL_law_196 rfl (lv_at hl 1 rfl) ?_
  refine lv_iload hx hb dL_law_197 (lv_at hl 5 rfl) ?_
  refine lv_iconst (v := nI 1) hx hb dL_law_199 (by decide +kernel) ?_
  refine iaddN hx hb dL_law_200 ?_
  refine va_sld hx hb hXs hbl hbA hS (vp_in_nI (n := i + 1) (by omega) (by omega)) dL_law_201 ?_
  refine tS (st' := [.int (xs (i + 1)), .ref ob]) (by rw [nI_clamp (by omega)]) ?_
  refine lv_aload_n hx hb dL_law_202 rfl (lv_at hl 1 rfl) ?_
  refine lv_iload hx hb dL_law_203 (lv_at hl 5 rfl) ?_
  refine lv_iconst (v := nI 2) hx hb dL_law_205 (by decide +kernel) ?_
  refine iaddN hx hb dL_law_206 ?_
  refine va_sld hx hb hXs hbl hbA hS (vp_in_nI (n := i + 2) (by omega) (by omega)) dL_law_207 ?_
  refine tS (st' := [.int (xs (i + 2)), .int (xs (i + 1)), .ref ob]) (by rw [nI_clamp (by omega)]) ?_
  refine mcall (st1 := [.int (nI 0)]) (va_runV (As := [.int (xs (i + 1)), .int (xs (i + 2))]) (rest := []) ⟨hx, hb, hml, hown, hts⟩ (MX_current_e2 l G hM hR (by omega) (xs (i + 1)) (xs (i + 2)) h1 hNo) (cwV 2 hts gL_law_X6_current rfl rfl rfl (by decide +kernel) ⟨Nat.le_of_ble_eq_true rfl, Nat.le_of_ble_eq_true rfl⟩) (PJ.preV hE hJ (rs_recv hE.1 hM (P_pre hPb)) ⟨P_pre hPb, (D_pre hDb).weaken (fun _ _ _ _ => trivial)⟩) rfl rfl hl.1 rfl (lv_room (Nat.le_of_ble_eq_true rfl)) dL_law_208 ⟨by show _ + 0 ≤ 601024; omega, by show _ + 0 ≤ 7293034; omega⟩) hS (fun q _ h => inW_D (D_pre hDb) q h) (fun q h => inW_D (D_pre hDb) q h) rfl (fun H1 locs1 hB9 hz9 hk1 hS => ?_)
  obtain ⟨MC', hM', hP1, hD1⟩ := hB9
  obtain ⟨hP3, hD3⟩ := jnF (w1 := MC') hPb hDb hk1 hP1 hD1
  generalize H1 = H at hP3 hS ⊢
  refine lv_istore (lv' := [(6, .int (nI 0)), (5, .int (nI 2)), (0, .ref b), (1, .ref fe), (2, .ref ob), (3, .ref ou), (4, .int (nI i))]) hx hb dL_law_211 hl (by decide) rfl (fun ls hl => ?_)
  refine lv_aload_n hx hb dL_law_213 rfl (lv_at hl 4 rfl) ?_
  refine pcall (st1 := [.int (nI 2)]) (va_runV (As := []) (rest := []) ⟨hx, hb, hml, hown, hts⟩ (MX_thrown l G hM') (cwV 0 hts gL_law_X6_thrown rfl rfl rfl (by decide +kernel) ⟨Nat.le_of_ble_eq_true rfl, Nat.le_of_ble_eq_true rfl⟩) (PC.preV hE (rs_recv hE.1 hM' (P_pre hP3)) (P_pre hP3)) rfl rfl hl.1 rfl (lv_room (Nat.le_of_ble_eq_true rfl)) dL_law_214 ⟨by show _ + 0 ≤ 601024; omega, by show _ + 0 ≤ 7293034; omega⟩) rfl ?_
  refine lv_iload hx hb dL_law_217 (lv_at hl 1 rfl) ?_
  refine icmp_eqN (tgt := 224) hx hb (by decide) (by decide) dL_law_219 (by decide) (fun _ => ?_) (fun h => absurd rfl h)
  refine lv_iload hx hb dL_law_224 (lv_at hl 1 rfl) ?_
  refine if_neN (tgt := 241) hx hb (by decide) dL_law_226 (by decide) (fun _ => ?_) (fun h => absurd h (by decide))
  refine lv_goto (tgt := 1491) hx hb dL_law_241 (by decide) ?_
  refine W.widen (k := cells + 1) (n := slots + 6) (by omega) (by omega) ?_
  have hP4 : va_P G.1 vwCl ([(ou, .inl (cJ, 1, .inr (.inl lo)))] ++ (WC ++ MC')) H := P_perm ((List.perm_append_comm).trans (by rw [List.append_assoc])) hP3
  have hD4 : va_D (AA s) ([(ou, .inl (cJ, 1, .inr (.inl lo)))] ++ (WC ++ MC')) := D_perm ((List.perm_append_comm).trans (by rw [List.append_assoc])) hD3
  exact kk _ _ _ _ _ _ _ _ _ _ _ _ _ _ _ ⟨hX, PR_mono (by omega) hR, hM', hP4, hD4, hS, lv_sub hl [2, 3, 4, 5, 6] rfl⟩
set_option maxHeartbeats 4000000 in
set_option maxRecDepth 100000 in
theorem seg_arrive_ok {p : Program} {l : Launch} {e : Env} {s : State} {m : MethodId} {below : List Frame} {meth : Method} {c : Code} {b L : Nat} {xs : Nat → Int32} {G : eG} {cJ : ClassId} {Q : State → Prop} (hlt : l.stackTraces = false) (hL : LX p s m c b L xs G cJ) {fe ob ou B i : Nat} {f sf : Nat → Int32} {ff : Nat → Nat → Int32} {old sz len : Nat} {tx : Nat → Int32} {hsn thr : Int32} {lo : Nat → Int64} {WC MC : va_W} {H : Heap} {locs : List Loc} {ls : Array Slot} {cells slots : Nat} (hD : LD s G cJ b fe ob ou B f sf ff old sz len tx hsn thr lo WC MC H locs ls i) (hi : i + 4 ≤ L) (hLL : L ≤ 2048) (hB : B + 10000 < 700000000) (hc1 : cells + 1 ≤ 601024) (hs1 : slots + 6 ≤ 7293034) (b_ : Nat) (y : Nat) (hb2 : b_ < 2) (hy1 : 1 ≤ y) (hy : y ≤ 20) (hq : nn f (57 + 11 * b_) < 10) (e1 : xs (i + 1) = nI b_) (e2 : xs (i + 2) = nI y) (kk : ∀ (f sf : Nat → Int32) (ff : Nat → Nat → Int32) (old sz len : Nat) (tx : Nat → Int32) (hsn thr : Int32) (lo : Nat → Int64) (WC MC : va_W) (H : Heap) (locs : List Loc) (ls : Array Slot), LD s G cJ b fe ob ou (B + 10000) f sf ff old sz len tx hsn thr lo WC MC H locs ls i → W p l e room_1 s m #[Value.ref b] below meth c H locs (cells + 1) (slots + 6) Q (F0 m 1491 ls [])) : W p l e room_1 s m #[Value.ref b] below meth c H locs cells slots Q (F0 m 244 ls []) := by
  obtain ⟨hx, hb, hml, hown, hts, hE, hJ0, hKJ, hXs, hbl⟩ := hL
  obtain ⟨hX, hR, hM, hP, hDD, hS, hl⟩ := hD
  have hbA : ¬ AA s b := Nat.not_le.mpr hbl
  have hJ : JX s H := hJ0.kept (fun a ha => hS.2.1 a ha (Nat.not_le.mpr ha))
  refine lv_aload_n hx hb dL_law_244 rfl (lv_at hl 1 rfl) ?_
  refine lv_aload_n hx hb dL_law_245 rfl (lv_at hl 0 rfl) ?_
  refine lv_iload hx hb dL_law_246 (lv_at hl 4 rfl) ?_
  refine lv_iconst (v := nI 1) hx hb dL_law_248 (by decide +kernel) ?_
  refine iaddN hx hb dL_law_249 ?_
  refine va_sld hx hb hXs hbl hbA hS (vp_in_nI (n := i + 1) (by omega) (by omega)) dL_law_250 ?_
  refine tS (st' := [.int (nI b_), .ref fe]) (by rw [nI_clamp (by omega), e1]) ?_
  refine lv_aload_n hx hb dL_law_251 rfl (lv_at hl 0 rfl) ?_
  refine lv_iload hx hb dL_law_252 (lv_at hl 4 rfl) ?_
  refine lv_iconst (v := nI 2) hx hb dL_law_254 (by decide +kernel) ?_
  refine iaddN hx hb dL_law_255 ?_
  refine va_sld hx hb hXs hbl hbA hS (vp_in_nI (n := i + 2) (by omega) (by omega)) dL_law_256 ?_
  refine tS (st' := [.int (nI y), .int (nI b_), .ref fe]) (by rw [nI_clamp (by omega), e2]) ?_
  refine lv_aload_n hx hb dL_law_257 rfl (lv_at hl 3 rfl) ?_
  have hPa : va_P G.1 vwCl (([(ou, .inl (cJ, 1, .inr (.inl lo)))] ++ WC) ++ MC) H := by rw [List.append_assoc]; exact hP
  have hDa : va_D (AA s) (([(ou, .inl (cJ, 1, .inr (.inl lo)))] ++ WC) ++ MC) := by rw [List.append_assoc]; exact hDD
  refine mcall (st1 := [.int (nI 0)]) (vx_runSW (As := [.ref fe, .int (nI b_), .int (nI y), .ref ou]) (rest := []) ⟨hx, hb, hml, hown, hts⟩ (CL_arrive_ok l G cJ hX hR (by omega) b_ y hb2 hy1 hy hq) (vx_cwSW 4 hts gL_law_L_arrive rfl rfl rfl (by decide +kernel) ⟨Nat.le_of_ble_eq_true rfl, Nat.le_of_ble_eq_true rfl⟩) (PL.preS hE hJ hKJ ⟨P_pre hPa, (D_pre hDa).weaken (fun _ _ _ _ => trivial)⟩) rfl rfl hl.1 rfl (lv_room (Nat.le_of_ble_eq_true rfl)) dL_law_258 ⟨by show cells + 0 ≤ 601024; omega, by show slots + 0 ≤ 7293034; omega⟩) hS (fun q _ h => inW_D (D_pre hDa) q h) (fun q h => inW_D (D_pre hDa) q h) rfl (fun H1 locs1 hB9 hz9 hk1 hS => ?_)
  obtain ⟨WC', hX', hP1, hD1⟩ := hB9
  obtain ⟨hP2, hD2⟩ := jnF (w1 := [(ou, .inl (cJ, 1, .inr (.inl (vp_updL lo 0 (((f (57 + (11 * b_)) + nI 1)).toInt64)))))] ++ WC') hPa hDa hk1 hP1 hD1
  generalize H1 = H at hP2 hS ⊢
  replace hJ : JX s H := hJ0.kept (fun a ha => hS.2.1 a ha (Nat.not_le.mpr ha))
  have hPb : va_P G.1 vwCl (MC ++ ([(ou, .inl (cJ, 1, .inr (.inl (vp_updL lo 0 (((f (57 + (11 * b_)) + nI 1)).toInt64)))))] ++ WC')) H := P_perm List.perm_append_comm hP2
  have hDb : va_D (AA s) (MC ++ ([(ou, .inl (cJ, 1, .inr (.inl (vp_updL lo 0 (((f (57 + (11 * b_)) + nI 1)).toInt64)))))] ++ WC')) := D_perm List.perm_append_comm hD2
  refine lv_istore (lv' := [(5, .int (nI 0)), (0, .ref b), (1, .ref fe), (2, .ref ob), (3, .ref ou), (4, .int (nI i))]) hx hb dL_law_261 hl (by decide) rfl (fun ls hl => ?_)
  refine lv_aload_n hx hb dL_law_263 rfl (lv_at hl 3 rfl) ?_
  refine lv_aload_n hx hb dL_law_264 rfl (lv_at hl 1 rfl) ?_
  refine lv_iload hx hb dL_law_265 (lv_at hl 5 rfl) ?_
  refine lv_iconst (v := nI 1) hx hb dL_law_267 (by decide +kernel) ?_
  refine iaddN hx hb dL_law_268 ?_
  refine va_sld hx hb hXs hbl hbA hS (vp_in_nI (n := i + 1) (by omega) (by omega)) dL_law_269 ?_
  refine tS (st' := [.int (nI b_), .ref ob]) (by rw [nI_clamp (by omega), e1]) ?_
  refine lv_aload_n hx hb dL_law_270 rfl (lv_at hl 1 rfl) ?_
  refine lv_iload hx hb dL_law_271 (lv_at hl 5 rfl) ?_
  refine lv_iconst (v := nI 2) hx hb dL_law_273 (by decide +kernel) ?_
  refine iaddN hx hb dL_law_274 ?_
  refine va_sld hx hb hXs hbl hbA hS (vp_in_nI (n := i + 2) (by omega) (by omega)) dL_law_275 ?_
  refine tS (st' := [.int (nI y), .int (nI b_), .ref ob]) (by rw [nI_clamp (by omega), e2]) ?_
  refine mcall (st1 := [.int (f (57 + (11 * b_)) + nI 1)]) (va_runV (As := [.int (nI b_), .int (nI y)]) (rest := []) ⟨hx, hb, hml, hown, hts⟩ (MX_arrive_ok l G hM hR (by omega) b_ y hb2 hy1 hy hq) (cwV 2 hts gL_law_X6_arrive rfl rfl rfl (by decide +kernel) ⟨Nat.le_of_ble_eq_true rfl, Nat.le_of_ble_eq_true rfl⟩) (PJ.preV hE hJ (rs_recv hE.1 hM (P_pre hPb)) ⟨P_pre hPb, (D_pre hDb).weaken (fun _ _ _ _ => trivial)⟩) rfl rfl hl.1 rfl (lv_room (Nat.le_of_ble_eq_true rfl)) dL_law_276 ⟨by show _ + 0 ≤ 601024; omega, by show _ + 0 ≤ 7293034; omega⟩) hS (fun q _ h => inW_D (D_pre hDb) q h) (fun q h => inW_D (D_pre hDb) q h) rfl (fun H1 locs1 hB9 hz9 hk1 hS => ?_)
  obtain ⟨MC', hM', hP1, hD1⟩ := hB9
  obtain ⟨hP3, hD3⟩ := jnF (w1 := MC') hPb hDb hk1 hP1 hD1
  generalize H1 = H at hP3 hS ⊢
  refine lv_istore (lv' := [(6, .int (f (57 + (11 * b_)) + nI 1)), (5, .int (nI 0)), (0, .ref b), (1, .ref fe), (2, .ref ob), (3, .ref ou), (4, .int (nI i))]) hx hb dL_law_279 hl (by decide) rfl (fun ls hl => ?_)
  refine lv_aload_n hx hb dL_law_281 rfl (lv_at hl 4 rfl) ?_
  refine pcall (st1 := [.int (nI 0)]) (va_runV (As := []) (rest := []) ⟨hx, hb, hml, hown, hts⟩ (MX_thrown l G hM') (cwV 0 hts gL_law_X6_thrown rfl rfl rfl (by decide +kernel) ⟨Nat.le_of_ble_eq_true rfl, Nat.le_of_ble_eq_true rfl⟩) (PC.preV hE (rs_recv hE.1 hM' (P_pre hP3)) (P_pre hP3)) rfl rfl hl.1 rfl (lv_room (Nat.le_of_ble_eq_true rfl)) dL_law_282 ⟨by show _ + 0 ≤ 601024; omega, by show _ + 0 ≤ 7293034; omega⟩) rfl ?_
  refine lv_iload hx hb dL_law_285 (lv_at hl 1 rfl) ?_
  refine icmp_eqN (tgt := 292) hx hb (by decide) (by decide) dL_law_287 (by decide) (fun _ => ?_) (fun h => absurd rfl h)
  refine lv_iload hx hb dL_law_292 (lv_at hl 1 rfl) ?_
  refine if_neN (tgt := 309) hx hb (by decide) dL_law_294 (by decide) (fun h => absurd rfl h) (fun _ => ?_)
  refine lv_aload_n hx hb dL_law_297 rfl (lv_at hl 5 rfl) ?_
  refine lv_iconst (v := nI 0) hx hb dL_law_298 (by decide +kernel) ?_
  refine va_lald hx hb hKJ (P_pre (P_perm ((List.perm_append_comm).trans (by rw [List.append_assoc])) hP3)) 0 0 rfl rfl (vp_in_nI (n := 0) (N := 1) (by decide) (by decide)) dL_law_299 ?_
  refine tS (st' := [.long (((f (57 + (11 * b_)) + nI 1)).toInt64)]) (by rw [nI_clamp (by decide), pk_uLs]) ?_
  refine lv_iload hx hb dL_law_300 (lv_at hl 0 rfl) ?_
  refine lv_i2l (v := ((f (57 + (11 * b_)) + nI 1)).toInt64) hx hb dL_law_302 rfl ?_
  refine lv_lcmpE hx hb dL_law_303 ?_
  refine if_eqN (tgt := 309) hx hb (by decide) dL_law_304 (by decide) (fun _ => ?_) (fun h => absurd rfl h)
  refine lv_goto (tgt := 1491) hx hb dL_law_309 (by decide) ?_
  refine W.widen (k := cells + 1) (n := slots + 6) (by omega) (by omega) ?_
  have hP4 : va_P G.1 vwCl ([(ou, .inl (cJ, 1, .inr (.inl (vp_updL lo 0 (((f (57 + (11 * b_)) + nI 1)).toInt64)))))] ++ (WC' ++ MC')) H := P_perm ((List.perm_append_comm).trans (by rw [List.append_assoc])) hP3
  have hD4 : va_D (AA s) ([(ou, .inl (cJ, 1, .inr (.inl (vp_updL lo 0 (((f (57 + (11 * b_)) + nI 1)).toInt64)))))] ++ (WC' ++ MC')) := D_perm ((List.perm_append_comm).trans (by rw [List.append_assoc])) hD3
  exact kk _ _ _ _ _ _ _ _ _ _ _ _ _ _ _ ⟨hX', PR_sav (by omega) hR (okf_mono (by omega) (okf_arr hR.1 hb2 hy hq)), hM', hP4, hD4, hS, lv_sub hl [2, 3, 4, 5, 6] rfl⟩
set_option maxHeartbeats 4000000 in
set_option maxRecDepth 100000 in
theorem seg_arrive_e1 {p : Program} {l : Launch} {e : Env} {s : State} {m : MethodId} {below : List Frame} {meth : Method} {c : Code} {b L : Nat} {xs : Nat → Int32} {G : eG} {cJ : ClassId} {Q : State → Prop} (hlt : l.stackTraces = false) (hL : LX p s m c b L xs G cJ) {fe ob ou B i : Nat} {f sf : Nat → Int32} {ff : Nat → Nat → Int32} {old sz len : Nat} {tx : Nat → Int32} {hsn thr : Int32} {lo : Nat → Int64} {WC MC : va_W} {H : Heap} {locs : List Loc} {ls : Array Slot} {cells slots : Nat} (hD : LD s G cJ b fe ob ou B f sf ff old sz len tx hsn thr lo WC MC H locs ls i) (hi : i + 4 ≤ L) (hLL : L ≤ 2048) (hB : B + 10000 < 700000000) (hc1 : cells + 1 ≤ 601024) (hs1 : slots + 6 ≤ 7293034) (hNo : ¬ (nI 0 ≤ (xs (i + 1)) ∧ (xs (i + 1)) ≤ nI 1))  (kk : ∀ (f sf : Nat → Int32) (ff : Nat → Nat → Int32) (old sz len : Nat) (tx : Nat → Int32) (hsn thr : Int32) (lo : Nat → Int64) (WC MC : va_W) (H : Heap) (locs : List Loc) (ls : Array Slot), LD s G cJ b fe ob ou (B + 10000) f sf ff old sz len tx hsn thr lo WC MC H locs ls i → W p l e room_1 s m #[Value.ref b] below meth c H locs (cells + 1) (slots + 6) Q (F0 m 1491 ls [])) : W p l e room_1 s m #[Value.ref b] below meth c H locs cells slots Q (F0 m 244 ls []) := by
  obtain ⟨hx, hb, hml, hown, hts, hE, hJ0, hKJ, hXs, hbl⟩ := hL
  obtain ⟨hX, hR, hM, hP, hDD, hS, hl⟩ := hD
  have hbA : ¬ AA s b := Nat.not_le.mpr hbl
  have hJ : JX s H := hJ0.kept (fun a ha => hS.2.1 a ha (Nat.not_le.mpr ha))
  refine lv_aload_n hx hb dL_law_244 rfl (lv_at hl 1 rfl) ?_
  refine lv_aload_n hx hb dL_law_245 rfl (lv_at hl 0 rfl) ?_
  refine lv_iload hx hb dL_law_246 (lv_at hl 4 rfl) ?_
  refine lv_iconst (v := nI 1) hx hb dL_law_248 (by decide +kernel) ?_
  refine iaddN hx hb dL_law_249 ?_
  refine va_sld hx hb hXs hbl hbA hS (vp_in_nI (n := i + 1) (by omega) (by omega)) dL_law_250 ?_
  refine tS (st' := [.int (xs (i + 1)), .ref fe]) (by rw [nI_clamp (by omega)]) ?_
  refine lv_aload_n hx hb dL_law_251 rfl (lv_at hl 0 rfl) ?_
  refine lv_iload hx hb dL_law_252 (lv_at hl 4 rfl) ?_
  refine lv_iconst (v := nI 2) hx hb dL_law_254 (by decide +kernel) ?_
  refine iaddN hx hb dL_law_255 ?_
  refine va_sld hx hb hXs hbl hbA hS (vp_in_nI (n := i + 2) (by omega) (by omega)) dL_law_256 ?_
  refine tS (st' := [.int (xs (i + 2)), .int (xs (i + 1)), .ref fe]) (by rw [nI_clamp (by omega)]) ?_
  refine lv_aload_n hx hb dL_law_257 rfl (lv_at hl 3 rfl) ?_
  have hPw : va_P G.1 vwCl (WC ++ MC) H := P_pre (P_perm List.perm_append_comm hP)
  have hDw : va_D (AA s) (WC ++ MC) := D_pre (D_perm List.perm_append_comm hDD)
  refine mcall (st1 := [.int (nI 1)]) (vx_runSW (As := [.ref fe, .int (xs (i + 1)), .int (xs (i + 2)), .ref ou]) (rest := []) ⟨hx, hb, hml, hown, hts⟩ (CL_arrive_e1 l hlt G cJ hX hR (by omega) (xs (i + 1)) (xs (i + 2)) hNo) (vx_cwSW 4 hts gL_law_L_arrive rfl rfl rfl (by decide +kernel) ⟨Nat.le_of_ble_eq_true rfl, Nat.le_of_ble_eq_true rfl⟩) (PL.preS hE hJ hKJ ⟨P_pre hPw, (D_pre hDw).weaken (fun _ _ _ _ => trivial)⟩) rfl rfl hl.1 rfl (lv_room (Nat.le_of_ble_eq_true rfl)) dL_law_258 ⟨by show cells + 1 ≤ 601024; omega, by show slots + 6 ≤ 7293034; omega⟩) hS (fun q _ h => (h : False).elim) (fun q h => (h : False).elim) rfl (fun H1 locs1 hB9 hz9 hk1 hS => ?_)
  have hP2 := P_kept hP (fun a ha => hk1 a ha (fun h => h))
  generalize H1 = H at hP2 hS ⊢
  replace hJ : JX s H := hJ0.kept (fun a ha => hS.2.1 a ha (Nat.not_le.mpr ha))
  have hPa : va_P G.1 vwCl (([(ou, .inl (cJ, 1, .inr (.inl lo)))] ++ WC) ++ MC) H := by rw [List.append_assoc]; exact hP2
  have hDa : va_D (AA s) (([(ou, .inl (cJ, 1, .inr (.inl lo)))] ++ WC) ++ MC) := by rw [List.append_assoc]; exact hDD
  have hPb : va_P G.1 vwCl (MC ++ ([(ou, .inl (cJ, 1, .inr (.inl lo)))] ++ WC)) H := P_perm List.perm_append_comm hPa
  have hDb : va_D (AA s) (MC ++ ([(ou, .inl (cJ, 1, .inr (.inl lo)))] ++ WC)) := D_perm List.perm_append_comm hDa
  refine lv_istore (lv' := [(5, .int (nI 1)), (0, .ref b), (1, .ref fe), (2, .ref ob), (3, .ref ou), (4, .int (nI i))]) hx hb dL_law_261 hl (by decide) rfl (fun ls hl => ?_)
  refine lv_aload_n hx hb dL_law_263 rfl (lv_at hl 3 rfl) ?_
  refine lv_aload_n hx hb dL_law_264 rfl (lv_at hl 1 rfl) ?_
  refine lv_iload hx hb dL_law_265 (lv_at hl 5 rfl) ?_
  refine lv_iconst (v := nI 1) hx hb dL_law_267 (by decide +kernel) ?_
  refine iaddN hx hb dL_law_268 ?_
  refine va_sld hx hb hXs hbl hbA hS (vp_in_nI (n := i + 1) (by omega) (by omega)) dL_law_269 ?_
  refine tS (st' := [.int (xs (i + 1)), .ref ob]) (by rw [nI_clamp (by omega)]) ?_
  refine lv_aload_n hx hb dL_law_270 rfl (lv_at hl 1 rfl) ?_
  refine lv_iload hx hb dL_law_271 (lv_at hl 5 rfl) ?_
  refine lv_iconst (v := nI 2) hx hb dL_law_273 (by decide +kernel) ?_
  refine iaddN hx hb dL_law_274 ?_
  refine va_sld hx hb hXs hbl hbA hS (vp_in_nI (n := i + 2) (by omega) (by omega)) dL_law_275 ?_
  refine tS (st' := [.int (xs (i + 2)), .int (xs (i + 1)), .ref ob]) (by rw [nI_clamp (by omega)]) ?_
  refine mcall (st1 := [.int (nI 0)]) (va_runV (As := [.int (xs (i + 1)), .int (xs (i + 2))]) (rest := []) ⟨hx, hb, hml, hown, hts⟩ (MX_arrive_e1 l G hM hR (by omega) (xs (i + 1)) (xs (i + 2)) hNo) (cwV 2 hts gL_law_X6_arrive rfl rfl rfl (by decide +kernel) ⟨Nat.le_of_ble_eq_true rfl, Nat.le_of_ble_eq_true rfl⟩) (PJ.preV hE hJ (rs_recv hE.1 hM (P_pre hPb)) ⟨P_pre hPb, (D_pre hDb).weaken (fun _ _ _ _ => trivial)⟩) rfl rfl hl.1 rfl (lv_room (Nat.le_of_ble_eq_true rfl)) dL_law_276 ⟨by show _ + 0 ≤ 601024; omega, by show _ + 0 ≤ 7293034; omega⟩) hS (fun q _ h => inW_D (D_pre hDb) q h) (fun q h => inW_D (D_pre hDb) q h) rfl (fun H1 locs1 hB9 hz9 hk1 hS => ?_)
  obtain ⟨MC', hM', hP1, hD1⟩ := hB9
  obtain ⟨hP3, hD3⟩ := jnF (w1 := MC') hPb hDb hk1 hP1 hD1
  generalize H1 = H at hP3 hS ⊢
  refine lv_istore (lv' := [(6, .int (nI 0)), (5, .int (nI 1)), (0, .ref b), (1, .ref fe), (2, .ref ob), (3, .ref ou), (4, .int (nI i))]) hx hb dL_law_279 hl (by decide) rfl (fun ls hl => ?_)
  refine lv_aload_n hx hb dL_law_281 rfl (lv_at hl 4 rfl) ?_
  refine pcall (st1 := [.int (nI 1)]) (va_runV (As := []) (rest := []) ⟨hx, hb, hml, hown, hts⟩ (MX_thrown l G hM') (cwV 0 hts gL_law_X6_thrown rfl rfl rfl (by decide +kernel) ⟨Nat.le_of_ble_eq_true rfl, Nat.le_of_ble_eq_true rfl⟩) (PC.preV hE (rs_recv hE.1 hM' (P_pre hP3)) (P_pre hP3)) rfl rfl hl.1 rfl (lv_room (Nat.le_of_ble_eq_true rfl)) dL_law_282 ⟨by show _ + 0 ≤ 601024; omega, by show _ + 0 ≤ 7293034; omega⟩) rfl ?_
  refine lv_iload hx hb dL_law_285 (lv_at hl 1 rfl) ?_
  refine icmp_eqN (tgt := 292) hx hb (by decide) (by decide) dL_law_287 (by decide) (fun _ => ?_) (fun h => absurd rfl h)
  refine lv_iload hx hb dL_law_292 (lv_at hl 1 rfl) ?_
  refine if_neN (tgt := 309) hx hb (by decide) dL_law_294 (by decide) (fun _ => ?_) (fun h => absurd h (by decide))
  refine lv_goto (tgt := 1491) hx hb dL_law_309 (by decide) ?_
  refine W.widen (k := cells + 1) (n := slots + 6) (by omega) (by omega) ?_
  have hP4 : va_P G.1 vwCl ([(ou, .inl (cJ, 1, .inr (.inl lo)))] ++ (WC ++ MC')) H := P_perm ((List.perm_append_comm).trans (by rw [List.append_assoc])) hP3
  have hD4 : va_D (AA s) ([(ou, .inl (cJ, 1, .inr (.inl lo)))] ++ (WC ++ MC')) := D_perm ((List.perm_append_comm).trans (by rw [List.append_assoc])) hD3
  exact kk _ _ _ _ _ _ _ _ _ _ _ _ _ _ _ ⟨hX, PR_mono (by omega) hR, hM', hP4, hD4, hS, lv_sub hl [2, 3, 4, 5, 6] rfl⟩
set_option maxHeartbeats 4000000 in
set_option maxRecDepth 100000 in
theorem seg_arrive_e2 {p : Program} {l : Launch} {e : Env} {s : State} {m : MethodId} {below : List Frame} {meth : Method} {c : Code} {b L : Nat} {xs : Nat → Int32} {G : eG} {cJ : ClassId} {Q : State → Prop} (hlt : l.stackTraces = false) (hL : LX p s m c b L xs G cJ) {fe ob ou B i : Nat} {f sf : Nat → Int32} {ff : Nat → Nat → Int32} {old sz len : Nat} {tx : Nat → Int32} {hsn thr : Int32} {lo : Nat → Int64} {WC MC : va_W} {H : Heap} {locs : List Loc} {ls : Array Slot} {cells slots : Nat} (hD : LD s G cJ b fe ob ou B f sf ff old sz len tx hsn thr lo WC MC H locs ls i) (hi : i + 4 ≤ L) (hLL : L ≤ 2048) (hB : B + 10000 < 700000000) (hc1 : cells + 1 ≤ 601024) (hs1 : slots + 6 ≤ 7293034) (h1 : nI 0 ≤ (xs (i + 1)) ∧ (xs (i + 1)) ≤ nI 1) (hNo : ¬ (nI 1 ≤ (xs (i + 2)) ∧ (xs (i + 2)) ≤ nI 20))  (kk : ∀ (f sf : Nat → Int32) (ff : Nat → Nat → Int32) (old sz len : Nat) (tx : Nat → Int32) (hsn thr : Int32) (lo : Nat → Int64) (WC MC : va_W) (H : Heap) (locs : List Loc) (ls : Array Slot), LD s G cJ b fe ob ou (B + 10000) f sf ff old sz len tx hsn thr lo WC MC H locs ls i → W p l e room_1 s m #[Value.ref b] below meth c H locs (cells + 1) (slots + 6) Q (F0 m 1491 ls [])) : W p l e room_1 s m #[Value.ref b] below meth c H locs cells slots Q (F0 m 244 ls []) := by
  obtain ⟨hx, hb, hml, hown, hts, hE, hJ0, hKJ, hXs, hbl⟩ := hL
  obtain ⟨hX, hR, hM, hP, hDD, hS, hl⟩ := hD
  have hbA : ¬ AA s b := Nat.not_le.mpr hbl
  have hJ : JX s H := hJ0.kept (fun a ha => hS.2.1 a ha (Nat.not_le.mpr ha))
  refine lv_aload_n hx hb dL_law_244 rfl (lv_at hl 1 rfl) ?_
  refine lv_aload_n hx hb dL_law_245 rfl (lv_at hl 0 rfl) ?_
  refine lv_iload hx hb dL_law_246 (lv_at hl 4 rfl) ?_
  refine lv_iconst (v := nI 1) hx hb dL_law_248 (by decide +kernel) ?_
  refine iaddN hx hb dL_law_249 ?_
  refine va_sld hx hb hXs hbl hbA hS (vp_in_nI (n := i + 1) (by omega) (by omega)) dL_law_250 ?_
  refine tS (st' := [.int (xs (i + 1)), .ref fe]) (by rw [nI_clamp (by omega)]) ?_
  refine lv_aload_n hx hb dL_law_251 rfl (lv_at hl 0 rfl) ?_
  refine lv_iload hx hb dL_law_252 (lv_at hl 4 rfl) ?_
  refine lv_iconst (v := nI 2) hx hb dL_law_254 (by decide +kernel) ?_
  refine iaddN hx hb dL_law_255 ?_
  refine va_sld hx hb hXs hbl hbA hS (vp_in_nI (n := i + 2) (by omega) (by omega)) dL_law_256 ?_
  refine tS (st' := [.int (xs (i + 2)), .int (xs (i + 1)), .ref fe]) (by rw [nI_clamp (by omega)]) ?_
  refine lv_aload_n hx hb dL_law_257 rfl (lv_at hl 3 rfl) ?_
  have hPw : va_P G.1 vwCl (WC ++ MC) H := P_pre (P_perm List.perm_append_comm hP)
  have hDw : va_D (AA s) (WC ++ MC) := D_pre (D_perm List.perm_append_comm hDD)
  refine mcall (st1 := [.int (nI 2)]) (vx_runSW (As := [.ref fe, .int (xs (i + 1)), .int (xs (i + 2)), .ref ou]) (rest := []) ⟨hx, hb, hml, hown, hts⟩ (CL_arrive_e2 l hlt G cJ hX hR (by omega) (xs (i + 1)) (xs (i + 2)) h1 hNo) (vx_cwSW 4 hts gL_law_L_arrive rfl rfl rfl (by decide +kernel) ⟨Nat.le_of_ble_eq_true rfl, Nat.le_of_ble_eq_true rfl⟩) (PL.preS hE hJ hKJ ⟨P_pre hPw, (D_pre hDw).weaken (fun _ _ _ _ => trivial)⟩) rfl rfl hl.1 rfl (lv_room (Nat.le_of_ble_eq_true rfl)) dL_law_258 ⟨by show cells + 1 ≤ 601024; omega, by show slots + 6 ≤ 7293034; omega⟩) hS (fun q _ h => (h : False).elim) (fun q h => (h : False).elim) rfl (fun H1 locs1 hB9 hz9 hk1 hS => ?_)
  have hP2 := P_kept hP (fun a ha => hk1 a ha (fun h => h))
  generalize H1 = H at hP2 hS ⊢
  replace hJ : JX s H := hJ0.kept (fun a ha => hS.2.1 a ha (Nat.not_le.mpr ha))
  have hPa : va_P G.1 vwCl (([(ou, .inl (cJ, 1, .inr (.inl lo)))] ++ WC) ++ MC) H := by rw [List.append_assoc]; exact hP2
  have hDa : va_D (AA s) (([(ou, .inl (cJ, 1, .inr (.inl lo)))] ++ WC) ++ MC) := by rw [List.append_assoc]; exact hDD
  have hPb : va_P G.1 vwCl (MC ++ ([(ou, .inl (cJ, 1, .inr (.inl lo)))] ++ WC)) H := P_perm List.perm_append_comm hPa
  have hDb : va_D (AA s) (MC ++ ([(ou, .inl (cJ, 1, .inr (.inl lo)))] ++ WC)) := D_perm List.perm_append_comm hDa
  refine lv_istore (lv' := [(5, .int (nI 2)), (0, .ref b), (1, .ref fe), (2, .ref ob), (3, .ref ou), (4, .int (nI i))]) hx hb dL_law_261 hl (by decide) rfl (fun ls hl => ?_)
  refine lv_aload_n hx hb dL_law_263 rfl (lv_at hl 3 rfl) ?_
  refine lv_aload_n hx hb dL_law_264 rfl (lv_at hl 1 rfl) ?_
  refine lv_iload hx hb dL_law_265 (lv_at hl 5 rfl) ?_
  refine lv_iconst (v := nI 1) hx hb dL_law_267 (by decide +kernel) ?_
  refine iaddN hx hb dL_law_268 ?_
  refine va_sld hx hb hXs hbl hbA hS (vp_in_nI (n := i + 1) (by omega) (by omega)) dL_law_269 ?_
  refine tS (st' := [.int (xs (i + 1)), .ref ob]) (by rw [nI_clamp (by omega)]) ?_
  refine lv_aload_n hx hb dL_law_270 rfl (lv_at hl 1 rfl) ?_
  refine lv_iload hx hb dL_law_271 (lv_at hl 5 rfl) ?_
  refine lv_iconst (v := nI 2) hx hb dL_law_273 (by decide +kernel) ?_
  refine iaddN hx hb dL_law_274 ?_
  refine va_sld hx hb hXs hbl hbA hS (vp_in_nI (n := i + 2) (by omega) (by omega)) dL_law_275 ?_
  refine tS (st' := [.int (xs (i + 2)), .int (xs (i + 1)), .ref ob]) (by rw [nI_clamp (by omega)]) ?_
  refine mcall (st1 := [.int (nI 0)]) (va_runV (As := [.int (xs (i + 1)), .int (xs (i + 2))]) (rest := []) ⟨hx, hb, hml, hown, hts⟩ (MX_arrive_e2 l G hM hR (by omega) (xs (i + 1)) (xs (i + 2)) h1 hNo) (cwV 2 hts gL_law_X6_arrive rfl rfl rfl (by decide +kernel) ⟨Nat.le_of_ble_eq_true rfl, Nat.le_of_ble_eq_true rfl⟩) (PJ.preV hE hJ (rs_recv hE.1 hM (P_pre hPb)) ⟨P_pre hPb, (D_pre hDb).weaken (fun _ _ _ _ => trivial)⟩) rfl rfl hl.1 rfl (lv_room (Nat.le_of_ble_eq_true rfl)) dL_law_276 ⟨by show _ + 0 ≤ 601024; omega, by show _ + 0 ≤ 7293034; omega⟩) hS (fun q _ h => inW_D (D_pre hDb) q h) (fun q h => inW_D (D_pre hDb) q h) rfl (fun H1 locs1 hB9 hz9 hk1 hS => ?_)
  obtain ⟨MC', hM', hP1, hD1⟩ := hB9
  obtain ⟨hP3, hD3⟩ := jnF (w1 := MC') hPb hDb hk1 hP1 hD1
  generalize H1 = H at hP3 hS ⊢
  refine lv_istore (lv' := [(6, .int (nI 0)), (5, .int (nI 2)), (0, .ref b), (1, .ref fe), (2, .ref ob), (3, .ref ou), (4, .int (nI i))]) hx hb dL_law_279 hl (by decide) rfl (fun ls hl => ?_)
  refine lv_aload_n hx hb dL_law_281 rfl (lv_at hl 4 rfl) ?_
  refine pcall (st1 := [.int (nI 2)]) (va_runV (As := []) (rest := []) ⟨hx, hb, hml, hown, hts⟩ (MX_thrown l G hM') (cwV 0 hts gL_law_X6_thrown rfl rfl rfl (by decide +kernel) ⟨Nat.le_of_ble_eq_true rfl, Nat.le_of_ble_eq_true rfl⟩) (PC.preV hE (rs_recv hE.1 hM' (P_pre hP3)) (P_pre hP3)) rfl rfl hl.1 rfl (lv_room (Nat.le_of_ble_eq_true rfl)) dL_law_282 ⟨by show _ + 0 ≤ 601024; omega, by show _ + 0 ≤ 7293034; omega⟩) rfl ?_
  refine lv_iload hx hb dL_law_285 (lv_at hl 1 rfl) ?_
  refine icmp_eqN (tgt := 292) hx hb (by decide) (by decide) dL_law_287 (by decide) (fun _ => ?_) (fun h => absurd rfl h)
  refine lv_iload hx hb dL_law_292 (lv_at hl 1 rfl) ?_
  refine if_neN (tgt := 309) hx hb (by decide) dL_law_294 (by decide) (fun _ => ?_) (fun h => absurd h (by decide))
  refine lv_goto (tgt := 1491) hx hb dL_law_309 (by decide) ?_
  refine W.widen (k := cells + 1) (n := slots + 6) (by omega) (by omega) ?_
  have hP4 : va_P G.1 vwCl ([(ou, .inl (cJ, 1, .inr (.inl lo)))] ++ (WC ++ MC')) H := P_perm ((List.perm_append_comm).trans (by rw [List.append_assoc])) hP3
  have hD4 : va_D (AA s) ([(ou, .inl (cJ, 1, .inr (.inl lo)))] ++ (WC ++ MC')) := D_perm ((List.perm_append_comm).trans (by rw [List.append_assoc])) hD3
  exact kk _ _ _ _ _ _ _ _ _ _ _ _ _ _ _ ⟨hX, PR_mono (by omega) hR, hM', hP4, hD4, hS, lv_sub hl [2, 3, 4, 5, 6] rfl⟩
set_option maxHeartbeats 4000000 in
set_option maxRecDepth 100000 in
theorem seg_arrive_e3 {p : Program} {l : Launch} {e : Env} {s : State} {m : MethodId} {below : List Frame} {meth : Method} {c : Code} {b L : Nat} {xs : Nat → Int32} {G : eG} {cJ : ClassId} {Q : State → Prop} (hlt : l.stackTraces = false) (hL : LX p s m c b L xs G cJ) {fe ob ou B i : Nat} {f sf : Nat → Int32} {ff : Nat → Nat → Int32} {old sz len : Nat} {tx : Nat → Int32} {hsn thr : Int32} {lo : Nat → Int64} {WC MC : va_W} {H : Heap} {locs : List Loc} {ls : Array Slot} {cells slots : Nat} (hD : LD s G cJ b fe ob ou B f sf ff old sz len tx hsn thr lo WC MC H locs ls i) (hi : i + 4 ≤ L) (hLL : L ≤ 2048) (hB : B + 10000 < 700000000) (hc1 : cells + 1 ≤ 601024) (hs1 : slots + 6 ≤ 7293034) (b_ : Nat) (y : Nat) (hb2 : b_ < 2) (hy1 : 1 ≤ y) (hy : y ≤ 20) (hq : ¬ nn f (57 + 11 * b_) < 10) (e1 : xs (i + 1) = nI b_) (e2 : xs (i + 2) = nI y) (kk : ∀ (f sf : Nat → Int32) (ff : Nat → Nat → Int32) (old sz len : Nat) (tx : Nat → Int32) (hsn thr : Int32) (lo : Nat → Int64) (WC MC : va_W) (H : Heap) (locs : List Loc) (ls : Array Slot), LD s G cJ b fe ob ou (B + 10000) f sf ff old sz len tx hsn thr lo WC MC H locs ls i → W p l e room_1 s m #[Value.ref b] below meth c H locs (cells + 1) (slots + 6) Q (F0 m 1491 ls [])) : W p l e room_1 s m #[Value.ref b] below meth c H locs cells slots Q (F0 m 244 ls []) := by
  obtain ⟨hx, hb, hml, hown, hts, hE, hJ0, hKJ, hXs, hbl⟩ := hL
  obtain ⟨hX, hR, hM, hP, hDD, hS, hl⟩ := hD
  have hbA : ¬ AA s b := Nat.not_le.mpr hbl
  have hJ : JX s H := hJ0.kept (fun a ha => hS.2.1 a ha (Nat.not_le.mpr ha))
  refine lv_aload_n hx hb dL_law_244 rfl (lv_at hl 1 rfl) ?_
  refine lv_aload_n hx hb dL_law_245 rfl (lv_at hl 0 rfl) ?_
  refine lv_iload hx hb dL_law_246 (lv_at hl 4 rfl) ?_
  refine lv_iconst (v := nI 1) hx hb dL_law_248 (by decide +kernel) ?_
  refine iaddN hx hb dL_law_249 ?_
  refine va_sld hx hb hXs hbl hbA hS (vp_in_nI (n := i + 1) (by omega) (by omega)) dL_law_250 ?_
  refine tS (st' := [.int (nI b_), .ref fe]) (by rw [nI_clamp (by omega), e1]) ?_
  refine lv_aload_n hx hb dL_law_251 rfl (lv_at hl 0 rfl) ?_
  refine lv_iload hx hb dL_law_252 (lv_at hl 4 rfl) ?_
  refine lv_iconst (v := nI 2) hx hb dL_law_254 (by decide +kernel) ?_
  refine iaddN hx hb dL_law_255 ?_
  refine va_sld hx hb hXs hbl hbA hS (vp_in_nI (n := i + 2) (by omega) (by omega)) dL_law_256 ?_
  refine tS (st' := [.int (nI y), .int (nI b_), .ref fe]) (by rw [nI_clamp (by omega), e2]) ?_
  refine lv_aload_n hx hb dL_law_257 rfl (lv_at hl 3 rfl) ?_
  have hPw : va_P G.1 vwCl (WC ++ MC) H := P_pre (P_perm List.perm_append_comm hP)
  have hDw : va_D (AA s) (WC ++ MC) := D_pre (D_perm List.perm_append_comm hDD)
  refine mcall (st1 := [.int (nI 3)]) (vx_runSW (As := [.ref fe, .int (nI b_), .int (nI y), .ref ou]) (rest := []) ⟨hx, hb, hml, hown, hts⟩ (CL_arrive_e3 l hlt G cJ hX hR (by omega) b_ y hb2 hy1 hy hq) (vx_cwSW 4 hts gL_law_L_arrive rfl rfl rfl (by decide +kernel) ⟨Nat.le_of_ble_eq_true rfl, Nat.le_of_ble_eq_true rfl⟩) (PL.preS hE hJ hKJ ⟨P_pre hPw, (D_pre hDw).weaken (fun _ _ _ _ => trivial)⟩) rfl rfl hl.1 rfl (lv_room (Nat.le_of_ble_eq_true rfl)) dL_law_258 ⟨by show cells + 1 ≤ 601024; omega, by show slots + 6 ≤ 7293034; omega⟩) hS (fun q _ h => (h : False).elim) (fun q h => (h : False).elim) rfl (fun H1 locs1 hB9 hz9 hk1 hS => ?_)
  have hP2 := P_kept hP (fun a ha => hk1 a ha (fun h => h))
  generalize H1 = H at hP2 hS ⊢
  replace hJ : JX s H := hJ0.kept (fun a ha => hS.2.1 a ha (Nat.not_le.mpr ha))
  have hPa : va_P G.1 vwCl (([(ou, .inl (cJ, 1, .inr (.inl lo)))] ++ WC) ++ MC) H := by rw [List.append_assoc]; exact hP2
  have hDa : va_D (AA s) (([(ou, .inl (cJ, 1, .inr (.inl lo)))] ++ WC) ++ MC) := by rw [List.append_assoc]; exact hDD
  have hPb : va_P G.1 vwCl (MC ++ ([(ou, .inl (cJ, 1, .inr (.inl lo)))] ++ WC)) H := P_perm List.perm_append_comm hPa
  have hDb : va_D (AA s) (MC ++ ([(ou, .inl (cJ, 1, .inr (.inl lo)))] ++ WC)) := D_perm List.perm_append_comm hDa
  refine lv_istore (lv' := [(5, .int (nI 3)), (0, .ref b), (1, .ref fe), (2, .ref ob), (3, .ref ou), (4, .int (nI i))]) hx hb dL_law_261 hl (by decide) rfl (fun ls hl => ?_)
  refine lv_aload_n hx hb dL_law_263 rfl (lv_at hl 3 rfl) ?_
  refine lv_aload_n hx hb dL_law_264 rfl (lv_at hl 1 rfl) ?_
  refine lv_iload hx hb dL_law_265 (lv_at hl 5 rfl) ?_
  refine lv_iconst (v := nI 1) hx hb dL_law_267 (by decide +kernel) ?_
  refine iaddN hx hb dL_law_268 ?_
  refine va_sld hx hb hXs hbl hbA hS (vp_in_nI (n := i + 1) (by omega) (by omega)) dL_law_269 ?_
  refine tS (st' := [.int (nI b_), .ref ob]) (by rw [nI_clamp (by omega), e1]) ?_
  refine lv_aload_n hx hb dL_law_270 rfl (lv_at hl 1 rfl) ?_
  refine lv_iload hx hb dL_law_271 (lv_at hl 5 rfl) ?_
  refine lv_iconst (v := nI 2) hx hb dL_law_273 (by decide +kernel) ?_
  refine iaddN hx hb dL_law_274 ?_
  refine va_sld hx hb hXs hbl hbA hS (vp_in_nI (n := i + 2) (by omega) (by omega)) dL_law_275 ?_
  refine tS (st' := [.int (nI y), .int (nI b_), .ref ob]) (by rw [nI_clamp (by omega), e2]) ?_
  refine mcall (st1 := [.int (nI 0)]) (va_runV (As := [.int (nI b_), .int (nI y)]) (rest := []) ⟨hx, hb, hml, hown, hts⟩ (MX_arrive_e3 l G hM hR (by omega) b_ y hb2 hy1 hy (by have h9 := ((okf_shp (by omega : B < 1000000000) hR.1).2.1 b_ hb2).2; omega)) (cwV 2 hts gL_law_X6_arrive rfl rfl rfl (by decide +kernel) ⟨Nat.le_of_ble_eq_true rfl, Nat.le_of_ble_eq_true rfl⟩) (PJ.preV hE hJ (rs_recv hE.1 hM (P_pre hPb)) ⟨P_pre hPb, (D_pre hDb).weaken (fun _ _ _ _ => trivial)⟩) rfl rfl hl.1 rfl (lv_room (Nat.le_of_ble_eq_true rfl)) dL_law_276 ⟨by show _ + 0 ≤ 601024; omega, by show _ + 0 ≤ 7293034; omega⟩) hS (fun q _ h => inW_D (D_pre hDb) q h) (fun q h => inW_D (D_pre hDb) q h) rfl (fun H1 locs1 hB9 hz9 hk1 hS => ?_)
  obtain ⟨MC', hM', hP1, hD1⟩ := hB9
  obtain ⟨hP3, hD3⟩ := jnF (w1 := MC') hPb hDb hk1 hP1 hD1
  generalize H1 = H at hP3 hS ⊢
  refine lv_istore (lv' := [(6, .int (nI 0)), (5, .int (nI 3)), (0, .ref b), (1, .ref fe), (2, .ref ob), (3, .ref ou), (4, .int (nI i))]) hx hb dL_law_279 hl (by decide) rfl (fun ls hl => ?_)
  refine lv_aload_n hx hb dL_law_281 rfl (lv_at hl 4 rfl) ?_
  refine pcall (st1 := [.int (nI 3)]) (va_runV (As := []) (rest := []) ⟨hx, hb, hml, hown, hts⟩ (MX_thrown l G hM') (cwV 0 hts gL_law_X6_thrown rfl rfl rfl (by decide +kernel) ⟨Nat.le_of_ble_eq_true rfl, Nat.le_of_ble_eq_true rfl⟩) (PC.preV hE (rs_recv hE.1 hM' (P_pre hP3)) (P_pre hP3)) rfl rfl hl.1 rfl (lv_room (Nat.le_of_ble_eq_true rfl)) dL_law_282 ⟨by show _ + 0 ≤ 601024; omega, by show _ + 0 ≤ 7293034; omega⟩) rfl ?_
  refine lv_iload hx hb dL_law_285 (lv_at hl 1 rfl) ?_
  refine icmp_eqN (tgt := 292) hx hb (by decide) (by decide) dL_law_287 (by decide) (fun _ => ?_) (fun h => absurd rfl h)
  refine lv_iload hx hb dL_law_292 (lv_at hl 1 rfl) ?_
  refine if_neN (tgt := 309) hx hb (by decide) dL_law_294 (by decide) (fun _ => ?_) (fun h => absurd h (by decide))
  refine lv_goto (tgt := 1491) hx hb dL_law_309 (by decide) ?_
  refine W.widen (k := cells + 1) (n := slots + 6) (by omega) (by omega) ?_
  have hP4 : va_P G.1 vwCl ([(ou, .inl (cJ, 1, .inr (.inl lo)))] ++ (WC ++ MC')) H := P_perm ((List.perm_append_comm).trans (by rw [List.append_assoc])) hP3
  have hD4 : va_D (AA s) ([(ou, .inl (cJ, 1, .inr (.inl lo)))] ++ (WC ++ MC')) := D_perm ((List.perm_append_comm).trans (by rw [List.append_assoc])) hD3
  exact kk _ _ _ _ _ _ _ _ _ _ _ _ _ _ _ ⟨hX, PR_mono (by omega) hR, hM', hP4, hD4, hS, lv_sub hl [2, 3, 4, 5, 6] rfl⟩
set_option maxHeartbeats 4000000 in
set_option maxRecDepth 100000 in
theorem seg_load_ok {p : Program} {l : Launch} {e : Env} {s : State} {m : MethodId} {below : List Frame} {meth : Method} {c : Code} {b L : Nat} {xs : Nat → Int32} {G : eG} {cJ : ClassId} {Q : State → Prop} (hlt : l.stackTraces = false) (hL : LX p s m c b L xs G cJ) {fe ob ou B i : Nat} {f sf : Nat → Int32} {ff : Nat → Nat → Int32} {old sz len : Nat} {tx : Nat → Int32} {hsn thr : Int32} {lo : Nat → Int64} {WC MC : va_W} {H : Heap} {locs : List Loc} {ls : Array Slot} {cells slots : Nat} (hD : LD s G cJ b fe ob ou B f sf ff old sz len tx hsn thr lo WC MC H locs ls i) (hi : i + 4 ≤ L) (hLL : L ≤ 2048) (hB : B + 10000 < 700000000) (hc1 : cells + 1 ≤ 601024) (hs1 : slots + 6 ≤ 7293034) (q : Nat) (hq : q < 2) (hcan : fCan f q = true) (e1 : xs (i + 1) = nI q) (kk : ∀ (f sf : Nat → Int32) (ff : Nat → Nat → Int32) (old sz len : Nat) (tx : Nat → Int32) (hsn thr : Int32) (lo : Nat → Int64) (WC MC : va_W) (H : Heap) (locs : List Loc) (ls : Array Slot), LD s G cJ b fe ob ou (B + 10000) f sf ff old sz len tx hsn thr lo WC MC H locs ls i → W p l e room_1 s m #[Value.ref b] below meth c H locs (cells + 1) (slots + 6) Q (F0 m 1491 ls [])) : W p l e room_1 s m #[Value.ref b] below meth c H locs cells slots Q (F0 m 312 ls []) := by
  obtain ⟨hx, hb, hml, hown, hts, hE, hJ0, hKJ, hXs, hbl⟩ := hL
  obtain ⟨hX, hR, hM, hP, hDD, hS, hl⟩ := hD
  have hbA : ¬ AA s b := Nat.not_le.mpr hbl
  have hJ : JX s H := hJ0.kept (fun a ha => hS.2.1 a ha (Nat.not_le.mpr ha))
  refine lv_aload_n hx hb dL_law_312 rfl (lv_at hl 1 rfl) ?_
  refine lv_aload_n hx hb dL_law_313 rfl (lv_at hl 0 rfl) ?_
  refine lv_iload hx hb dL_law_314 (lv_at hl 4 rfl) ?_
  refine lv_iconst (v := nI 1) hx hb dL_law_316 (by decide +kernel) ?_
  refine iaddN hx hb dL_law_317 ?_
  refine va_sld hx hb hXs hbl hbA hS (vp_in_nI (n := i + 1) (by omega) (by omega)) dL_law_318 ?_
  refine tS (st' := [.int (nI q), .ref fe]) (by rw [nI_clamp (by omega), e1]) ?_
  refine lv_aload_n hx hb dL_law_319 rfl (lv_at hl 3 rfl) ?_
  have hPa : va_P G.1 vwCl (([(ou, .inl (cJ, 1, .inr (.inl lo)))] ++ WC) ++ MC) H := by rw [List.append_assoc]; exact hP
  have hDa : va_D (AA s) (([(ou, .inl (cJ, 1, .inr (.inl lo)))] ++ WC) ++ MC) := by rw [List.append_assoc]; exact hDD
  refine mcall (st1 := [.int (nI 0)]) (vx_runSW (As := [.ref fe, .int (nI q), .ref ou]) (rest := []) ⟨hx, hb, hml, hown, hts⟩ (CL_load_ok l G cJ hX hR (by omega) q hq hcan) (vx_cwSW 3 hts gL_law_L_load rfl rfl rfl (by decide +kernel) ⟨Nat.le_of_ble_eq_true rfl, Nat.le_of_ble_eq_true rfl⟩) (PL.preS hE hJ hKJ ⟨P_pre hPa, (D_pre hDa).weaken (fun _ _ _ _ => trivial)⟩) rfl rfl hl.1 rfl (lv_room (Nat.le_of_ble_eq_true rfl)) dL_law_320 ⟨by show cells + 0 ≤ 601024; omega, by show slots + 0 ≤ 7293034; omega⟩) hS (fun q _ h => inW_D (D_pre hDa) q h) (fun q h => inW_D (D_pre hDa) q h) rfl (fun H1 locs1 hB9 hz9 hk1 hS => ?_)
  obtain ⟨WC', hX', hP1, hD1⟩ := hB9
  obtain ⟨hP2, hD2⟩ := jnF (w1 := [(ou, .inl (cJ, 1, .inr (.inl (vp_updL lo 0 (((f (fAt f + 1))).toInt64)))))] ++ WC') hPa hDa hk1 hP1 hD1
  generalize H1 = H at hP2 hS ⊢
  replace hJ : JX s H := hJ0.kept (fun a ha => hS.2.1 a ha (Nat.not_le.mpr ha))
  have hPb : va_P G.1 vwCl (MC ++ ([(ou, .inl (cJ, 1, .inr (.inl (vp_updL lo 0 (((f (fAt f + 1))).toInt64)))))] ++ WC')) H := P_perm List.perm_append_comm hP2
  have hDb : va_D (AA s) (MC ++ ([(ou, .inl (cJ, 1, .inr (.inl (vp_updL lo 0 (((f (fAt f + 1))).toInt64)))))] ++ WC')) := D_perm List.perm_append_comm hD2
  refine lv_istore (lv' := [(5, .int (nI 0)), (0, .ref b), (1, .ref fe), (2, .ref ob), (3, .ref ou), (4, .int (nI i))]) hx hb dL_law_323 hl (by decide) rfl (fun ls hl => ?_)
  refine lv_aload_n hx hb dL_law_325 rfl (lv_at hl 3 rfl) ?_
  refine lv_aload_n hx hb dL_law_326 rfl (lv_at hl 1 rfl) ?_
  refine lv_iload hx hb dL_law_327 (lv_at hl 5 rfl) ?_
  refine lv_iconst (v := nI 1) hx hb dL_law_329 (by decide +kernel) ?_
  refine iaddN hx hb dL_law_330 ?_
  refine va_sld hx hb hXs hbl hbA hS (vp_in_nI (n := i + 1) (by omega) (by omega)) dL_law_331 ?_
  refine tS (st' := [.int (nI q), .ref ob]) (by rw [nI_clamp (by omega), e1]) ?_
  refine mcall (st1 := [.int (f (fAt f + 1))]) (va_runV (As := [.int (nI q)]) (rest := []) ⟨hx, hb, hml, hown, hts⟩ (MX_load_ok l G hM hR (by omega) q hq hcan) (cwV 1 hts gL_law_X6_load rfl rfl rfl (by decide +kernel) ⟨Nat.le_of_ble_eq_true rfl, Nat.le_of_ble_eq_true rfl⟩) (PJ.preV hE hJ (rs_recv hE.1 hM (P_pre hPb)) ⟨P_pre hPb, (D_pre hDb).weaken (fun _ _ _ _ => trivial)⟩) rfl rfl hl.1 rfl (lv_room (Nat.le_of_ble_eq_true rfl)) dL_law_332 ⟨by show _ + 0 ≤ 601024; omega, by show _ + 0 ≤ 7293034; omega⟩) hS (fun q _ h => inW_D (D_pre hDb) q h) (fun q h => inW_D (D_pre hDb) q h) rfl (fun H1 locs1 hB9 hz9 hk1 hS => ?_)
  obtain ⟨MC', hM', hP1, hD1⟩ := hB9
  obtain ⟨hP3, hD3⟩ := jnF (w1 := MC') hPb hDb hk1 hP1 hD1
  generalize H1 = H at hP3 hS ⊢
  refine lv_istore (lv' := [(6, .int (f (fAt f + 1))), (5, .int (nI 0)), (0, .ref b), (1, .ref fe), (2, .ref ob), (3, .ref ou), (4, .int (nI i))]) hx hb dL_law_335 hl (by decide) rfl (fun ls hl => ?_)
  refine lv_aload_n hx hb dL_law_337 rfl (lv_at hl 4 rfl) ?_
  refine pcall (st1 := [.int (nI 0)]) (va_runV (As := []) (rest := []) ⟨hx, hb, hml, hown, hts⟩ (MX_thrown l G hM') (cwV 0 hts gL_law_X6_thrown rfl rfl rfl (by decide +kernel) ⟨Nat.le_of_ble_eq_true rfl, Nat.le_of_ble_eq_true rfl⟩) (PC.preV hE (rs_recv hE.1 hM' (P_pre hP3)) (P_pre hP3)) rfl rfl hl.1 rfl (lv_room (Nat.le_of_ble_eq_true rfl)) dL_law_338 ⟨by show _ + 0 ≤ 601024; omega, by show _ + 0 ≤ 7293034; omega⟩) rfl ?_
  refine lv_iload hx hb dL_law_341 (lv_at hl 1 rfl) ?_
  refine icmp_eqN (tgt := 348) hx hb (by decide) (by decide) dL_law_343 (by decide) (fun _ => ?_) (fun h => absurd rfl h)
  refine lv_iload hx hb dL_law_348 (lv_at hl 1 rfl) ?_
  refine if_neN (tgt := 365) hx hb (by decide) dL_law_350 (by decide) (fun h => absurd rfl h) (fun _ => ?_)
  refine lv_aload_n hx hb dL_law_353 rfl (lv_at hl 5 rfl) ?_
  refine lv_iconst (v := nI 0) hx hb dL_law_354 (by decide +kernel) ?_
  refine va_lald hx hb hKJ (P_pre (P_perm ((List.perm_append_comm).trans (by rw [List.append_assoc])) hP3)) 0 0 rfl rfl (vp_in_nI (n := 0) (N := 1) (by decide) (by decide)) dL_law_355 ?_
  refine tS (st' := [.long (((f (fAt f + 1))).toInt64)]) (by rw [nI_clamp (by decide), pk_uLs]) ?_
  refine lv_iload hx hb dL_law_356 (lv_at hl 0 rfl) ?_
  refine lv_i2l (v := ((f (fAt f + 1))).toInt64) hx hb dL_law_358 rfl ?_
  refine lv_lcmpE hx hb dL_law_359 ?_
  refine if_eqN (tgt := 365) hx hb (by decide) dL_law_360 (by decide) (fun _ => ?_) (fun h => absurd rfl h)
  refine lv_goto (tgt := 1491) hx hb dL_law_365 (by decide) ?_
  refine W.widen (k := cells + 1) (n := slots + 6) (by omega) (by omega) ?_
  have hP4 : va_P G.1 vwCl ([(ou, .inl (cJ, 1, .inr (.inl (vp_updL lo 0 (((f (fAt f + 1))).toInt64)))))] ++ (WC' ++ MC')) H := P_perm ((List.perm_append_comm).trans (by rw [List.append_assoc])) hP3
  have hD4 : va_D (AA s) ([(ou, .inl (cJ, 1, .inr (.inl (vp_updL lo 0 (((f (fAt f + 1))).toInt64)))))] ++ (WC' ++ MC')) := D_perm ((List.perm_append_comm).trans (by rw [List.append_assoc])) hD3
  exact kk _ _ _ _ _ _ _ _ _ _ _ _ _ _ _ ⟨hX', PR_sav (by omega) hR (okf_mono (by omega) (okf_lod hR.1 hq hcan)), hM', hP4, hD4, hS, lv_sub hl [2, 3, 4, 5, 6] rfl⟩
set_option maxHeartbeats 4000000 in
set_option maxRecDepth 100000 in
theorem seg_load_e1 {p : Program} {l : Launch} {e : Env} {s : State} {m : MethodId} {below : List Frame} {meth : Method} {c : Code} {b L : Nat} {xs : Nat → Int32} {G : eG} {cJ : ClassId} {Q : State → Prop} (hlt : l.stackTraces = false) (hL : LX p s m c b L xs G cJ) {fe ob ou B i : Nat} {f sf : Nat → Int32} {ff : Nat → Nat → Int32} {old sz len : Nat} {tx : Nat → Int32} {hsn thr : Int32} {lo : Nat → Int64} {WC MC : va_W} {H : Heap} {locs : List Loc} {ls : Array Slot} {cells slots : Nat} (hD : LD s G cJ b fe ob ou B f sf ff old sz len tx hsn thr lo WC MC H locs ls i) (hi : i + 4 ≤ L) (hLL : L ≤ 2048) (hB : B + 10000 < 700000000) (hc1 : cells + 1 ≤ 601024) (hs1 : slots + 6 ≤ 7293034) (hNo : ¬ (nI 0 ≤ (xs (i + 1)) ∧ (xs (i + 1)) ≤ nI 1))  (kk : ∀ (f sf : Nat → Int32) (ff : Nat → Nat → Int32) (old sz len : Nat) (tx : Nat → Int32) (hsn thr : Int32) (lo : Nat → Int64) (WC MC : va_W) (H : Heap) (locs : List Loc) (ls : Array Slot), LD s G cJ b fe ob ou (B + 10000) f sf ff old sz len tx hsn thr lo WC MC H locs ls i → W p l e room_1 s m #[Value.ref b] below meth c H locs (cells + 1) (slots + 6) Q (F0 m 1491 ls [])) : W p l e room_1 s m #[Value.ref b] below meth c H locs cells slots Q (F0 m 312 ls []) := by
  obtain ⟨hx, hb, hml, hown, hts, hE, hJ0, hKJ, hXs, hbl⟩ := hL
  obtain ⟨hX, hR, hM, hP, hDD, hS, hl⟩ := hD
  have hbA : ¬ AA s b := Nat.not_le.mpr hbl
  have hJ : JX s H := hJ0.kept (fun a ha => hS.2.1 a ha (Nat.not_le.mpr ha))
  refine lv_aload_n hx hb dL_law_312 rfl (lv_at hl 1 rfl) ?_
  refine lv_aload_n hx hb dL_law_313 rfl (lv_at hl 0 rfl) ?_
  refine lv_iload hx hb dL_law_314 (lv_at hl 4 rfl) ?_
  refine lv_iconst (v := nI 1) hx hb dL_law_316 (by decide +kernel) ?_
  refine iaddN hx hb dL_law_317 ?_
  refine va_sld hx hb hXs hbl hbA hS (vp_in_nI (n := i + 1) (by omega) (by omega)) dL_law_318 ?_
  refine tS (st' := [.int (xs (i + 1)), .ref fe]) (by rw [nI_clamp (by omega)]) ?_
  refine lv_aload_n hx hb dL_law_319 rfl (lv_at hl 3 rfl) ?_
  have hPw : va_P G.1 vwCl (WC ++ MC) H := P_pre (P_perm List.perm_append_comm hP)
  have hDw : va_D (AA s) (WC ++ MC) := D_pre (D_perm List.perm_append_comm hDD)
  refine mcall (st1 := [.int (nI 1)]) (vx_runSW (As := [.ref fe, .int (xs (i + 1)), .ref ou]) (rest := []) ⟨hx, hb, hml, hown, hts⟩ (CL_load_e1 l hlt G cJ hX hR (by omega) (xs (i + 1)) hNo) (vx_cwSW 3 hts gL_law_L_load rfl rfl rfl (by decide +kernel) ⟨Nat.le_of_ble_eq_true rfl, Nat.le_of_ble_eq_true rfl⟩) (PL.preS hE hJ hKJ ⟨P_pre hPw, (D_pre hDw).weaken (fun _ _ _ _ => trivial)⟩) rfl rfl hl.1 rfl (lv_room (Nat.le_of_ble_eq_true rfl)) dL_law_320 ⟨by show cells + 1 ≤ 601024; omega, by show slots + 6 ≤ 7293034; omega⟩) hS (fun q _ h => (h : False).elim) (fun q h => (h : False).elim) rfl (fun H1 locs1 hB9 hz9 hk1 hS => ?_)
  have hP2 := P_kept hP (fun a ha => hk1 a ha (fun h => h))
  generalize H1 = H at hP2 hS ⊢
  replace hJ : JX s H := hJ0.kept (fun a ha => hS.2.1 a ha (Nat.not_le.mpr ha))
  have hPa : va_P G.1 vwCl (([(ou, .inl (cJ, 1, .inr (.inl lo)))] ++ WC) ++ MC) H := by rw [List.append_assoc]; exact hP2
  have hDa : va_D (AA s) (([(ou, .inl (cJ, 1, .inr (.inl lo)))] ++ WC) ++ MC) := by rw [List.append_assoc]; exact hDD
  have hPb : va_P G.1 vwCl (MC ++ ([(ou, .inl (cJ, 1, .inr (.inl lo)))] ++ WC)) H := P_perm List.perm_append_comm hPa
  have hDb : va_D (AA s) (MC ++ ([(ou, .inl (cJ, 1, .inr (.inl lo)))] ++ WC)) := D_perm List.perm_append_comm hDa
  refine lv_istore (lv' := [(5, .int (nI 1)), (0, .ref b), (1, .ref fe), (2, .ref ob), (3, .ref ou), (4, .int (nI i))]) hx hb dL_law_323 hl (by decide) rfl (fun ls hl => ?_)
  refine lv_aload_n hx hb dL_law_325 rfl (lv_at hl 3 rfl) ?_
  refine lv_aload_n hx hb dL_law_326 rfl (lv_at hl 1 rfl) ?_
  refine lv_iload hx hb dL_law_327 (lv_at hl 5 rfl) ?_
  refine lv_iconst (v := nI 1) hx hb dL_law_329 (by decide +kernel) ?_
  refine iaddN hx hb dL_law_330 ?_
  refine va_sld hx hb hXs hbl hbA hS (vp_in_nI (n := i + 1) (by omega) (by omega)) dL_law_331 ?_
  refine tS (st' := [.int (xs (i + 1)), .ref ob]) (by rw [nI_clamp (by omega)]) ?_
  refine mcall (st1 := [.int (nI 0)]) (va_runV (As := [.int (xs (i + 1))]) (rest := []) ⟨hx, hb, hml, hown, hts⟩ (MX_load_e1 l G hM hR (by omega) (xs (i + 1)) hNo) (cwV 1 hts gL_law_X6_load rfl rfl rfl (by decide +kernel) ⟨Nat.le_of_ble_eq_true rfl, Nat.le_of_ble_eq_true rfl⟩) (PJ.preV hE hJ (rs_recv hE.1 hM (P_pre hPb)) ⟨P_pre hPb, (D_pre hDb).weaken (fun _ _ _ _ => trivial)⟩) rfl rfl hl.1 rfl (lv_room (Nat.le_of_ble_eq_true rfl)) dL_law_332 ⟨by show _ + 0 ≤ 601024; omega, by show _ + 0 ≤ 7293034; omega⟩) hS (fun q _ h => inW_D (D_pre hDb) q h) (fun q h => inW_D (D_pre hDb) q h) rfl (fun H1 locs1 hB9 hz9 hk1 hS => ?_)
  obtain ⟨MC', hM', hP1, hD1⟩ := hB9
  obtain ⟨hP3, hD3⟩ := jnF (w1 := MC') hPb hDb hk1 hP1 hD1
  generalize H1 = H at hP3 hS ⊢
  refine lv_istore (lv' := [(6, .int (nI 0)), (5, .int (nI 1)), (0, .ref b), (1, .ref fe), (2, .ref ob), (3, .ref ou), (4, .int (nI i))]) hx hb dL_law_335 hl (by decide) rfl (fun ls hl => ?_)
  refine lv_aload_n hx hb dL_law_337 rfl (lv_at hl 4 rfl) ?_
  refine pcall (st1 := [.int (nI 1)]) (va_runV (As := []) (rest := []) ⟨hx, hb, hml, hown, hts⟩ (MX_thrown l G hM') (cwV 0 hts gL_law_X6_thrown rfl rfl rfl (by decide +kernel) ⟨Nat.le_of_ble_eq_true rfl, Nat.le_of_ble_eq_true rfl⟩) (PC.preV hE (rs_recv hE.1 hM' (P_pre hP3)) (P_pre hP3)) rfl rfl hl.1 rfl (lv_room (Nat.le_of_ble_eq_true rfl)) dL_law_338 ⟨by show _ + 0 ≤ 601024; omega, by show _ + 0 ≤ 7293034; omega⟩) rfl ?_
  refine lv_iload hx hb dL_law_341 (lv_at hl 1 rfl) ?_
  refine icmp_eqN (tgt := 348) hx hb (by decide) (by decide) dL_law_343 (by decide) (fun _ => ?_) (fun h => absurd rfl h)
  refine lv_iload hx hb dL_law_348 (lv_at hl 1 rfl) ?_
  refine if_neN (tgt := 365) hx hb (by decide) dL_law_350 (by decide) (fun _ => ?_) (fun h => absurd h (by decide))
  refine lv_goto (tgt := 1491) hx hb dL_law_365 (by decide) ?_
  refine W.widen (k := cells + 1) (n := slots + 6) (by omega) (by omega) ?_
  have hP4 : va_P G.1 vwCl ([(ou, .inl (cJ, 1, .inr (.inl lo)))] ++ (WC ++ MC')) H := P_perm ((List.perm_append_comm).trans (by rw [List.append_assoc])) hP3
  have hD4 : va_D (AA s) ([(ou, .inl (cJ, 1, .inr (.inl lo)))] ++ (WC ++ MC')) := D_perm ((List.perm_append_comm).trans (by rw [List.append_assoc])) hD3
  exact kk _ _ _ _ _ _ _ _ _ _ _ _ _ _ _ ⟨hX, PR_mono (by omega) hR, hM', hP4, hD4, hS, lv_sub hl [2, 3, 4, 5, 6] rfl⟩
set_option maxHeartbeats 4000000 in
set_option maxRecDepth 100000 in
theorem seg_load_e2 {p : Program} {l : Launch} {e : Env} {s : State} {m : MethodId} {below : List Frame} {meth : Method} {c : Code} {b L : Nat} {xs : Nat → Int32} {G : eG} {cJ : ClassId} {Q : State → Prop} (hlt : l.stackTraces = false) (hL : LX p s m c b L xs G cJ) {fe ob ou B i : Nat} {f sf : Nat → Int32} {ff : Nat → Nat → Int32} {old sz len : Nat} {tx : Nat → Int32} {hsn thr : Int32} {lo : Nat → Int64} {WC MC : va_W} {H : Heap} {locs : List Loc} {ls : Array Slot} {cells slots : Nat} (hD : LD s G cJ b fe ob ou B f sf ff old sz len tx hsn thr lo WC MC H locs ls i) (hi : i + 4 ≤ L) (hLL : L ≤ 2048) (hB : B + 10000 < 700000000) (hc1 : cells + 1 ≤ 601024) (hs1 : slots + 6 ≤ 7293034) (q : Nat) (hq : q < 2) (hcan : ¬ fCan f q = true) (e1 : xs (i + 1) = nI q) (kk : ∀ (f sf : Nat → Int32) (ff : Nat → Nat → Int32) (old sz len : Nat) (tx : Nat → Int32) (hsn thr : Int32) (lo : Nat → Int64) (WC MC : va_W) (H : Heap) (locs : List Loc) (ls : Array Slot), LD s G cJ b fe ob ou (B + 10000) f sf ff old sz len tx hsn thr lo WC MC H locs ls i → W p l e room_1 s m #[Value.ref b] below meth c H locs (cells + 1) (slots + 6) Q (F0 m 1491 ls [])) : W p l e room_1 s m #[Value.ref b] below meth c H locs cells slots Q (F0 m 312 ls []) := by
  obtain ⟨hx, hb, hml, hown, hts, hE, hJ0, hKJ, hXs, hbl⟩ := hL
  obtain ⟨hX, hR, hM, hP, hDD, hS, hl⟩ := hD
  have hbA : ¬ AA s b := Nat.not_le.mpr hbl
  have hJ : JX s H := hJ0.kept (fun a ha => hS.2.1 a ha (Nat.not_le.mpr ha))
  refine lv_aload_n hx hb dL_law_312 rfl (lv_at hl 1 rfl) ?_
  refine lv_aload_n hx hb dL_law_313 rfl (lv_at hl 0 rfl) ?_
  refine lv_iload hx hb dL_law_314 (lv_at hl 4 rfl) ?_
  refine lv_iconst (v := nI 1) hx hb dL_law_316 (by decide +kernel) ?_
  refine iaddN hx hb dL_law_317 ?_
  refine va_sld hx hb hXs hbl hbA hS (vp_in_nI (n := i + 1) (by omega) (by omega)) dL_law_318 ?_
  refine tS (st' := [.int (nI q), .ref fe]) (by rw [nI_clamp (by omega), e1]) ?_
  refine lv_aload_n hx hb dL_law_319 rfl (lv_at hl 3 rfl) ?_
  have hPw : va_P G.1 vwCl (WC ++ MC) H := P_pre (P_perm List.perm_append_comm hP)
  have hDw : va_D (AA s) (WC ++ MC) := D_pre (D_perm List.perm_append_comm hDD)
  refine mcall (st1 := [.int (nI 2)]) (vx_runSW (As := [.ref fe, .int (nI q), .ref ou]) (rest := []) ⟨hx, hb, hml, hown, hts⟩ (CL_load_e2 l hlt G cJ hX hR (by omega) q hq hcan) (vx_cwSW 3 hts gL_law_L_load rfl rfl rfl (by decide +kernel) ⟨Nat.le_of_ble_eq_true rfl, Nat.le_of_ble_eq_true rfl⟩) (PL.preS hE hJ hKJ ⟨P_pre hPw, (D_pre hDw).weaken (fun _ _ _ _ => trivial)⟩) rfl rfl hl.1 rfl (lv_room (Nat.le_of_ble_eq_true rfl)) dL_law_320 ⟨by show cells + 1 ≤ 601024; omega, by show slots + 6 ≤ 7293034; omega⟩) hS (fun q _ h => (h : False).elim) (fun q h => (h : False).elim) rfl (fun H1 locs1 hB9 hz9 hk1 hS => ?_)
  have hP2 := P_kept hP (fun a ha => hk1 a ha (fun h => h))
  generalize H1 = H at hP2 hS ⊢
  replace hJ : JX s H := hJ0.kept (fun a ha => hS.2.1 a ha (Nat.not_le.mpr ha))
  have hPa : va_P G.1 vwCl (([(ou, .inl (cJ, 1, .inr (.inl lo)))] ++ WC) ++ MC) H := by rw [List.append_assoc]; exact hP2
  have hDa : va_D (AA s) (([(ou, .inl (cJ, 1, .inr (.inl lo)))] ++ WC) ++ MC) := by rw [List.append_assoc]; exact hDD
  have hPb : va_P G.1 vwCl (MC ++ ([(ou, .inl (cJ, 1, .inr (.inl lo)))] ++ WC)) H := P_perm List.perm_append_comm hPa
  have hDb : va_D (AA s) (MC ++ ([(ou, .inl (cJ, 1, .inr (.inl lo)))] ++ WC)) := D_perm List.perm_append_comm hDa
  refine lv_istore (lv' := [(5, .int (nI 2)), (0, .ref b), (1, .ref fe), (2, .ref ob), (3, .ref ou), (4, .int (nI i))]) hx hb dL_law_323 hl (by decide) rfl (fun ls hl => ?_)
  refine lv_aload_n hx hb dL_law_325 rfl (lv_at hl 3 rfl) ?_
  refine lv_aload_n hx hb dL_law_326 rfl (lv_at hl 1 rfl) ?_
  refine lv_iload hx hb dL_law_327 (lv_at hl 5 rfl) ?_
  refine lv_iconst (v := nI 1) hx hb dL_law_329 (by decide +kernel) ?_
  refine iaddN hx hb dL_law_330 ?_
  refine va_sld hx hb hXs hbl hbA hS (vp_in_nI (n := i + 1) (by omega) (by omega)) dL_law_331 ?_
  refine tS (st' := [.int (nI q), .ref ob]) (by rw [nI_clamp (by omega), e1]) ?_
  refine mcall (st1 := [.int (nI 0)]) (va_runV (As := [.int (nI q)]) (rest := []) ⟨hx, hb, hml, hown, hts⟩ (MX_load_e2 l G hM hR (by omega) q hq hcan) (cwV 1 hts gL_law_X6_load rfl rfl rfl (by decide +kernel) ⟨Nat.le_of_ble_eq_true rfl, Nat.le_of_ble_eq_true rfl⟩) (PJ.preV hE hJ (rs_recv hE.1 hM (P_pre hPb)) ⟨P_pre hPb, (D_pre hDb).weaken (fun _ _ _ _ => trivial)⟩) rfl rfl hl.1 rfl (lv_room (Nat.le_of_ble_eq_true rfl)) dL_law_332 ⟨by show _ + 0 ≤ 601024; omega, by show _ + 0 ≤ 7293034; omega⟩) hS (fun q _ h => inW_D (D_pre hDb) q h) (fun q h => inW_D (D_pre hDb) q h) rfl (fun H1 locs1 hB9 hz9 hk1 hS => ?_)
  obtain ⟨MC', hM', hP1, hD1⟩ := hB9
  obtain ⟨hP3, hD3⟩ := jnF (w1 := MC') hPb hDb hk1 hP1 hD1
  generalize H1 = H at hP3 hS ⊢
  refine lv_istore (lv' := [(6, .int (nI 0)), (5, .int (nI 2)), (0, .ref b), (1, .ref fe), (2, .ref ob), (3, .ref ou), (4, .int (nI i))]) hx hb dL_law_335 hl (by decide) rfl (fun ls hl => ?_)
  refine lv_aload_n hx hb dL_law_337 rfl (lv_at hl 4 rfl) ?_
  refine pcall (st1 := [.int (nI 2)]) (va_runV (As := []) (rest := []) ⟨hx, hb, hml, hown, hts⟩ (MX_thrown l G hM') (cwV 0 hts gL_law_X6_thrown rfl rfl rfl (by decide +kernel) ⟨Nat.le_of_ble_eq_true rfl, Nat.le_of_ble_eq_true rfl⟩) (PC.preV hE (rs_recv hE.1 hM' (P_pre hP3)) (P_pre hP3)) rfl rfl hl.1 rfl (lv_room (Nat.le_of_ble_eq_true rfl)) dL_law_338 ⟨by show _ + 0 ≤ 601024; omega, by show _ + 0 ≤ 7293034; omega⟩) rfl ?_
  refine lv_iload hx hb dL_law_341 (lv_at hl 1 rfl) ?_
  refine icmp_eqN (tgt := 348) hx hb (by decide) (by decide) dL_law_343 (by decide) (fun _ => ?_) (fun h => absurd rfl h)
  refine lv_iload hx hb dL_law_348 (lv_at hl 1 rfl) ?_
  refine if_neN (tgt := 365) hx hb (by decide) dL_law_350 (by decide) (fun _ => ?_) (fun h => absurd h (by decide))
  refine lv_goto (tgt := 1491) hx hb dL_law_365 (by decide) ?_
  refine W.widen (k := cells + 1) (n := slots + 6) (by omega) (by omega) ?_
  have hP4 : va_P G.1 vwCl ([(ou, .inl (cJ, 1, .inr (.inl lo)))] ++ (WC ++ MC')) H := P_perm ((List.perm_append_comm).trans (by rw [List.append_assoc])) hP3
  have hD4 : va_D (AA s) ([(ou, .inl (cJ, 1, .inr (.inl lo)))] ++ (WC ++ MC')) := D_perm ((List.perm_append_comm).trans (by rw [List.append_assoc])) hD3
  exact kk _ _ _ _ _ _ _ _ _ _ _ _ _ _ _ ⟨hX, PR_mono (by omega) hR, hM', hP4, hD4, hS, lv_sub hl [2, 3, 4, 5, 6] rfl⟩
set_option maxHeartbeats 4000000 in
set_option maxRecDepth 100000 in
theorem seg_unload_ok {p : Program} {l : Launch} {e : Env} {s : State} {m : MethodId} {below : List Frame} {meth : Method} {c : Code} {b L : Nat} {xs : Nat → Int32} {G : eG} {cJ : ClassId} {Q : State → Prop} (hlt : l.stackTraces = false) (hL : LX p s m c b L xs G cJ) {fe ob ou B i : Nat} {f sf : Nat → Int32} {ff : Nat → Nat → Int32} {old sz len : Nat} {tx : Nat → Int32} {hsn thr : Int32} {lo : Nat → Int64} {WC MC : va_W} {H : Heap} {locs : List Loc} {ls : Array Slot} {cells slots : Nat} (hD : LD s G cJ b fe ob ou B f sf ff old sz len tx hsn thr lo WC MC H locs ls i) (hi : i + 4 ≤ L) (hLL : L ≤ 2048) (hB : B + 10000 < 700000000) (hc1 : cells + 1 ≤ 601024) (hs1 : slots + 6 ≤ 7293034)   (kk : ∀ (f sf : Nat → Int32) (ff : Nat → Nat → Int32) (old sz len : Nat) (tx : Nat → Int32) (hsn thr : Int32) (lo : Nat → Int64) (WC MC : va_W) (H : Heap) (locs : List Loc) (ls : Array Slot), LD s G cJ b fe ob ou (B + 10000) f sf ff old sz len tx hsn thr lo WC MC H locs ls i → W p l e room_1 s m #[Value.ref b] below meth c H locs (cells + 1) (slots + 6) Q (F0 m 1491 ls [])) : W p l e room_1 s m #[Value.ref b] below meth c H locs cells slots Q (F0 m 368 ls []) := by
  obtain ⟨hx, hb, hml, hown, hts, hE, hJ0, hKJ, hXs, hbl⟩ := hL
  obtain ⟨hX, hR, hM, hP, hDD, hS, hl⟩ := hD
  have hbA : ¬ AA s b := Nat.not_le.mpr hbl
  have hJ : JX s H := hJ0.kept (fun a ha => hS.2.1 a ha (Nat.not_le.mpr ha))
  refine lv_aload_n hx hb dL_law_368 rfl (lv_at hl 1 rfl) ?_
  have hPa : va_P G.1 vwCl (WC ++ (MC ++ [(ou, .inl (cJ, 1, .inr (.inl lo)))])) H := P_perm ((List.perm_append_comm).trans (by rw [List.append_assoc])) hP
  have hDa : va_D (AA s) (WC ++ (MC ++ [(ou, .inl (cJ, 1, .inr (.inl lo)))])) := D_perm ((List.perm_append_comm).trans (by rw [List.append_assoc])) hDD
  refine mcall (st1 := [.int (unC f)]) (va_runV (As := []) (rest := []) ⟨hx, hb, hml, hown, hts⟩ (CX_unload_ok l G hX hR (by omega) ) (cwV 0 hts gL_law_X5_unload rfl rfl rfl (by decide +kernel) ⟨Nat.le_of_ble_eq_true rfl, Nat.le_of_ble_eq_true rfl⟩) (PJ.preV hE hJ (xs_recv hE.1 hX (P_pre hPa)) ⟨P_pre hPa, (D_pre hDa).weaken (fun _ _ _ _ => trivial)⟩) rfl rfl hl.1 rfl (lv_room (Nat.le_of_ble_eq_true rfl)) dL_law_369 ⟨by show cells + 0 ≤ 601024; omega, by show slots + 0 ≤ 7293034; omega⟩) hS (fun q _ h => inW_D (D_pre hDa) q h) (fun q h => inW_D (D_pre hDa) q h) rfl (fun H1 locs1 hB9 hz9 hk1 hS => ?_)
  obtain ⟨WC', hX', hP1, hD1⟩ := hB9
  obtain ⟨hP2, hD2⟩ := jnF (w1 := WC') hPa hDa hk1 hP1 hD1
  generalize H1 = H at hP2 hS ⊢
  replace hJ : JX s H := hJ0.kept (fun a ha => hS.2.1 a ha (Nat.not_le.mpr ha))
  have hPb : va_P G.1 vwCl (MC ++ ([(ou, .inl (cJ, 1, .inr (.inl lo)))] ++ WC')) H := P_perm ((List.perm_append_comm).trans (by rw [List.append_assoc])) hP2
  have hDb : va_D (AA s) (MC ++ ([(ou, .inl (cJ, 1, .inr (.inl lo)))] ++ WC')) := D_perm ((List.perm_append_comm).trans (by rw [List.append_assoc])) hD2
  refine lv_aload_n hx hb dL_law_372 rfl (lv_at hl 2 rfl) ?_
  refine mcall (st1 := [.int (unC f), .int (unC f)]) (va_runV (As := []) (rest := [.int (unC f)]) ⟨hx, hb, hml, hown, hts⟩ (MX_unload_ok l G hM hR (by omega) ) (cwV 0 hts gL_law_X6_unload rfl rfl rfl (by decide +kernel) ⟨Nat.le_of_ble_eq_true rfl, Nat.le_of_ble_eq_true rfl⟩) (PJ.preV hE hJ (rs_recv hE.1 hM (P_pre hPb)) ⟨P_pre hPb, (D_pre hDb).weaken (fun _ _ _ _ => trivial)⟩) rfl rfl hl.1 rfl (lv_room (Nat.le_of_ble_eq_true rfl)) dL_law_373 ⟨by show _ + 0 ≤ 601024; omega, by show _ + 0 ≤ 7293034; omega⟩) hS (fun q _ h => inW_D (D_pre hDb) q h) (fun q h => inW_D (D_pre hDb) q h) rfl (fun H1 locs1 hB9 hz9 hk1 hS => ?_)
  obtain ⟨MC', hM', hP1, hD1⟩ := hB9
  obtain ⟨hP3, hD3⟩ := jnF (w1 := MC') hPb hDb hk1 hP1 hD1
  generalize H1 = H at hP3 hS ⊢
  refine lv_icmp_eq (tgt := 1491) hx hb dL_law_376 (by decide) (fun _ => ?_) (fun h => absurd rfl h)
  refine W.widen (k := cells + 1) (n := slots + 6) (by omega) (by omega) ?_
  have hP4 : va_P G.1 vwCl ([(ou, .inl (cJ, 1, .inr (.inl lo)))] ++ (WC' ++ MC')) H := P_perm ((List.perm_append_comm).trans (by rw [List.append_assoc])) hP3
  have hD4 : va_D (AA s) ([(ou, .inl (cJ, 1, .inr (.inl lo)))] ++ (WC' ++ MC')) := D_perm ((List.perm_append_comm).trans (by rw [List.append_assoc])) hD3
  exact kk _ _ _ _ _ _ _ _ _ _ _ _ _ _ _ ⟨hX', PR_sav (by omega) hR (okf_mono (by omega) (okf_unl (by omega) hR.1)), hM', hP4, hD4, hS, lv_sub hl [0, 1, 2, 3, 4] rfl⟩
set_option maxHeartbeats 4000000 in
set_option maxRecDepth 100000 in
theorem seg_cross_ok {p : Program} {l : Launch} {e : Env} {s : State} {m : MethodId} {below : List Frame} {meth : Method} {c : Code} {b L : Nat} {xs : Nat → Int32} {G : eG} {cJ : ClassId} {Q : State → Prop} (hlt : l.stackTraces = false) (hL : LX p s m c b L xs G cJ) {fe ob ou B i : Nat} {f sf : Nat → Int32} {ff : Nat → Nat → Int32} {old sz len : Nat} {tx : Nat → Int32} {hsn thr : Int32} {lo : Nat → Int64} {WC MC : va_W} {H : Heap} {locs : List Loc} {ls : Array Slot} {cells slots : Nat} (hD : LD s G cJ b fe ob ou B f sf ff old sz len tx hsn thr lo WC MC H locs ls i) (hi : i + 4 ≤ L) (hLL : L ≤ 2048) (hB : B + 10000 < 700000000) (hc1 : cells + 1 ≤ 601024) (hs1 : slots + 6 ≤ 7293034) (hr0 : fRsn f = 0)  (kk : ∀ (f sf : Nat → Int32) (ff : Nat → Nat → Int32) (old sz len : Nat) (tx : Nat → Int32) (hsn thr : Int32) (lo : Nat → Int64) (WC MC : va_W) (H : Heap) (locs : List Loc) (ls : Array Slot), LD s G cJ b fe ob ou (B + 10000) f sf ff old sz len tx hsn thr lo WC MC H locs ls i → W p l e room_1 s m #[Value.ref b] below meth c H locs (cells + 1) (slots + 6) Q (F0 m 1491 ls [])) : W p l e room_1 s m #[Value.ref b] below meth c H locs cells slots Q (F0 m 381 ls []) := by
  obtain ⟨hx, hb, hml, hown, hts, hE, hJ0, hKJ, hXs, hbl⟩ := hL
  obtain ⟨hX, hR, hM, hP, hDD, hS, hl⟩ := hD
  have hbA : ¬ AA s b := Nat.not_le.mpr hbl
  have hJ : JX s H := hJ0.kept (fun a ha => hS.2.1 a ha (Nat.not_le.mpr ha))
  have hc := (okf_cro hR.1).1
  refine lv_aload_n hx hb dL_law_381 rfl (lv_at hl 1 rfl) ?_
  refine lv_aload_n hx hb dL_law_382 rfl (lv_at hl 3 rfl) ?_
  have hPa : va_P G.1 vwCl (([(ou, .inl (cJ, 1, .inr (.inl lo)))] ++ WC) ++ MC) H := by rw [List.append_assoc]; exact hP
  have hDa : va_D (AA s) (([(ou, .inl (cJ, 1, .inr (.inl lo)))] ++ WC) ++ MC) := by rw [List.append_assoc]; exact hDD
  refine mcall (st1 := [.int (nI 0)]) (vx_runSW (As := [.ref fe, .ref ou]) (rest := []) ⟨hx, hb, hml, hown, hts⟩ (CL_cross_ok l G cJ hX hR (by omega) hc hr0) (vx_cwSW 2 hts gL_law_L_cross rfl rfl rfl (by decide +kernel) ⟨Nat.le_of_ble_eq_true rfl, Nat.le_of_ble_eq_true rfl⟩) (PL.preS hE hJ hKJ ⟨P_pre hPa, (D_pre hDa).weaken (fun _ _ _ _ => trivial)⟩) rfl rfl hl.1 rfl (lv_room (Nat.le_of_ble_eq_true rfl)) dL_law_383 ⟨by show cells + 0 ≤ 601024; omega, by show slots + 0 ≤ 7293034; omega⟩) hS (fun q _ h => inW_D (D_pre hDa) q h) (fun q h => inW_D (D_pre hDa) q h) rfl (fun H1 locs1 hB9 hz9 hk1 hS => ?_)
  obtain ⟨WC', hX', hP1, hD1⟩ := hB9
  obtain ⟨hP2, hD2⟩ := jnF (w1 := [(ou, .inl (cJ, 1, .inr (.inl (vp_updL lo 0 (((nI (fHrs f))).toInt64)))))] ++ WC') hPa hDa hk1 hP1 hD1
  generalize H1 = H at hP2 hS ⊢
  replace hJ : JX s H := hJ0.kept (fun a ha => hS.2.1 a ha (Nat.not_le.mpr ha))
  have hPb : va_P G.1 vwCl (MC ++ ([(ou, .inl (cJ, 1, .inr (.inl (vp_updL lo 0 (((nI (fHrs f))).toInt64)))))] ++ WC')) H := P_perm List.perm_append_comm hP2
  have hDb : va_D (AA s) (MC ++ ([(ou, .inl (cJ, 1, .inr (.inl (vp_updL lo 0 (((nI (fHrs f))).toInt64)))))] ++ WC')) := D_perm List.perm_append_comm hD2
  refine lv_istore (lv' := [(5, .int (nI 0)), (0, .ref b), (1, .ref fe), (2, .ref ob), (3, .ref ou), (4, .int (nI i))]) hx hb dL_law_386 hl (by decide) rfl (fun ls hl => ?_)
  refine lv_aload_n hx hb dL_law_388 rfl (lv_at hl 3 rfl) ?_
  refine mcall (st1 := [.int (nI (fHrs f))]) (va_runV (As := []) (rest := []) ⟨hx, hb, hml, hown, hts⟩ (MX_cross_ok l G hM hR (by omega) hc hr0) (cwV 0 hts gL_law_X6_cross rfl rfl rfl (by decide +kernel) ⟨Nat.le_of_ble_eq_true rfl, Nat.le_of_ble_eq_true rfl⟩) (PJ.preV hE hJ (rs_recv hE.1 hM (P_pre hPb)) ⟨P_pre hPb, (D_pre hDb).weaken (fun _ _ _ _ => trivial)⟩) rfl rfl hl.1 rfl (lv_room (Nat.le_of_ble_eq_true rfl)) dL_law_389 ⟨by show _ + 0 ≤ 601024; omega, by show _ + 0 ≤ 7293034; omega⟩) hS (fun q _ h => inW_D (D_pre hDb) q h) (fun q h => inW_D (D_pre hDb) q h) rfl (fun H1 locs1 hB9 hz9 hk1 hS => ?_)
  obtain ⟨MC', hM', hP1, hD1⟩ := hB9
  obtain ⟨hP3, hD3⟩ := jnF (w1 := MC') hPb hDb hk1 hP1 hD1
  generalize H1 = H at hP3 hS ⊢
  refine lv_istore (lv' := [(6, .int (nI (fHrs f))), (5, .int (nI 0)), (0, .ref b), (1, .ref fe), (2, .ref ob), (3, .ref ou), (4, .int (nI i))]) hx hb dL_law_392 hl (by decide) rfl (fun ls hl => ?_)
  refine lv_aload_n hx hb dL_law_394 rfl (lv_at hl 4 rfl) ?_
  refine pcall (st1 := [.int (nI 0)]) (va_runV (As := []) (rest := []) ⟨hx, hb, hml, hown, hts⟩ (MX_thrown l G hM') (cwV 0 hts gL_law_X6_thrown rfl rfl rfl (by decide +kernel) ⟨Nat.le_of_ble_eq_true rfl, Nat.le_of_ble_eq_true rfl⟩) (PC.preV hE (rs_recv hE.1 hM' (P_pre hP3)) (P_pre hP3)) rfl rfl hl.1 rfl (lv_room (Nat.le_of_ble_eq_true rfl)) dL_law_395 ⟨by show _ + 0 ≤ 601024; omega, by show _ + 0 ≤ 7293034; omega⟩) rfl ?_
  refine lv_iload hx hb dL_law_398 (lv_at hl 1 rfl) ?_
  refine icmp_eqN (tgt := 405) hx hb (by decide) (by decide) dL_law_400 (by decide) (fun _ => ?_) (fun h => absurd rfl h)
  refine lv_iload hx hb dL_law_405 (lv_at hl 1 rfl) ?_
  refine if_neN (tgt := 422) hx hb (by decide) dL_law_407 (by decide) (fun h => absurd rfl h) (fun _ => ?_)
  refine lv_aload_n hx hb dL_law_410 rfl (lv_at hl 5 rfl) ?_
  refine lv_iconst (v := nI 0) hx hb dL_law_411 (by decide +kernel) ?_
  refine va_lald hx hb hKJ (P_pre (P_perm ((List.perm_append_comm).trans (by rw [List.append_assoc])) hP3)) 0 0 rfl rfl (vp_in_nI (n := 0) (N := 1) (by decide) (by decide)) dL_law_412 ?_
  refine tS (st' := [.long (((nI (fHrs f))).toInt64)]) (by rw [nI_clamp (by decide), pk_uLs]) ?_
  refine lv_iload hx hb dL_law_413 (lv_at hl 0 rfl) ?_
  refine lv_i2l (v := ((nI (fHrs f))).toInt64) hx hb dL_law_415 rfl ?_
  refine lv_lcmpE hx hb dL_law_416 ?_
  refine if_eqN (tgt := 422) hx hb (by decide) dL_law_417 (by decide) (fun _ => ?_) (fun h => absurd rfl h)
  refine lv_goto (tgt := 1491) hx hb dL_law_422 (by decide) ?_
  refine W.widen (k := cells + 1) (n := slots + 6) (by omega) (by omega) ?_
  have hP4 : va_P G.1 vwCl ([(ou, .inl (cJ, 1, .inr (.inl (vp_updL lo 0 (((nI (fHrs f))).toInt64)))))] ++ (WC' ++ MC')) H := P_perm ((List.perm_append_comm).trans (by rw [List.append_assoc])) hP3
  have hD4 : va_D (AA s) ([(ou, .inl (cJ, 1, .inr (.inl (vp_updL lo 0 (((nI (fHrs f))).toInt64)))))] ++ (WC' ++ MC')) := D_perm ((List.perm_append_comm).trans (by rw [List.append_assoc])) hD3
  exact kk _ _ _ _ _ _ _ _ _ _ _ _ _ _ _ ⟨hX', PR_sav (by omega) hR (okf_mono (by omega) (okf_crs (by omega) hR.1)), hM', hP4, hD4, hS, lv_sub hl [2, 3, 4, 5, 6] rfl⟩
set_option maxHeartbeats 4000000 in
set_option maxRecDepth 100000 in
theorem seg_cross_e1 {p : Program} {l : Launch} {e : Env} {s : State} {m : MethodId} {below : List Frame} {meth : Method} {c : Code} {b L : Nat} {xs : Nat → Int32} {G : eG} {cJ : ClassId} {Q : State → Prop} (hlt : l.stackTraces = false) (hL : LX p s m c b L xs G cJ) {fe ob ou B i : Nat} {f sf : Nat → Int32} {ff : Nat → Nat → Int32} {old sz len : Nat} {tx : Nat → Int32} {hsn thr : Int32} {lo : Nat → Int64} {WC MC : va_W} {H : Heap} {locs : List Loc} {ls : Array Slot} {cells slots : Nat} (hD : LD s G cJ b fe ob ou B f sf ff old sz len tx hsn thr lo WC MC H locs ls i) (hi : i + 4 ≤ L) (hLL : L ≤ 2048) (hB : B + 10000 < 700000000) (hc1 : cells + 1 ≤ 601024) (hs1 : slots + 6 ≤ 7293034) (hr0 : ¬ fRsn f = 0)  (kk : ∀ (f sf : Nat → Int32) (ff : Nat → Nat → Int32) (old sz len : Nat) (tx : Nat → Int32) (hsn thr : Int32) (lo : Nat → Int64) (WC MC : va_W) (H : Heap) (locs : List Loc) (ls : Array Slot), LD s G cJ b fe ob ou (B + 10000) f sf ff old sz len tx hsn thr lo WC MC H locs ls i → W p l e room_1 s m #[Value.ref b] below meth c H locs (cells + 1) (slots + 6) Q (F0 m 1491 ls [])) : W p l e room_1 s m #[Value.ref b] below meth c H locs cells slots Q (F0 m 381 ls []) := by
  obtain ⟨hx, hb, hml, hown, hts, hE, hJ0, hKJ, hXs, hbl⟩ := hL
  obtain ⟨hX, hR, hM, hP, hDD, hS, hl⟩ := hD
  have hbA : ¬ AA s b := Nat.not_le.mpr hbl
  have hJ : JX s H := hJ0.kept (fun a ha => hS.2.1 a ha (Nat.not_le.mpr ha))
  have hc := (okf_cro hR.1).1
  refine lv_aload_n hx hb dL_law_381 rfl (lv_at hl 1 rfl) ?_
  refine lv_aload_n hx hb dL_law_382 rfl (lv_at hl 3 rfl) ?_
  have hPw : va_P G.1 vwCl (WC ++ MC) H := P_pre (P_perm List.perm_append_comm hP)
  have hDw : va_D (AA s) (WC ++ MC) := D_pre (D_perm List.perm_append_comm hDD)
  refine mcall (st1 := [.int (nI 1)]) (vx_runSW (As := [.ref fe, .ref ou]) (rest := []) ⟨hx, hb, hml, hown, hts⟩ (CL_cross_e1 l hlt G cJ hX hR (by omega) hr0) (vx_cwSW 2 hts gL_law_L_cross rfl rfl rfl (by decide +kernel) ⟨Nat.le_of_ble_eq_true rfl, Nat.le_of_ble_eq_true rfl⟩) (PL.preS hE hJ hKJ ⟨P_pre hPw, (D_pre hDw).weaken (fun _ _ _ _ => trivial)⟩) rfl rfl hl.1 rfl (lv_room (Nat.le_of_ble_eq_true rfl)) dL_law_383 ⟨by show cells + 1 ≤ 601024; omega, by show slots + 6 ≤ 7293034; omega⟩) hS (fun q _ h => (h : False).elim) (fun q h => (h : False).elim) rfl (fun H1 locs1 hB9 hz9 hk1 hS => ?_)
  have hP2 := P_kept hP (fun a ha => hk1 a ha (fun h => h))
  generalize H1 = H at hP2 hS ⊢
  replace hJ : JX s H := hJ0.kept (fun a ha => hS.2.1 a ha (Nat.not_le.mpr ha))
  have hPa : va_P G.1 vwCl (([(ou, .inl (cJ, 1, .inr (.inl lo)))] ++ WC) ++ MC) H := by rw [List.append_assoc]; exact hP2
  have hDa : va_D (AA s) (([(ou, .inl (cJ, 1, .inr (.inl lo)))] ++ WC) ++ MC) := by rw [List.append_assoc]; exact hDD
  have hPb : va_P G.1 vwCl (MC ++ ([(ou, .inl (cJ, 1, .inr (.inl lo)))] ++ WC)) H := P_perm List.perm_append_comm hPa
  have hDb : va_D (AA s) (MC ++ ([(ou, .inl (cJ, 1, .inr (.inl lo)))] ++ WC)) := D_perm List.perm_append_comm hDa
  refine lv_istore (lv' := [(5, .int (nI 1)), (0, .ref b), (1, .ref fe), (2, .ref ob), (3, .ref ou), (4, .int (nI i))]) hx hb dL_law_386 hl (by decide) rfl (fun ls hl => ?_)
  refine lv_aload_n hx hb dL_law_388 rfl (lv_at hl 3 rfl) ?_
  refine mcall (st1 := [.int (nI 0)]) (va_runV (As := []) (rest := []) ⟨hx, hb, hml, hown, hts⟩ (MX_cross_e1 l G hM hR (by omega) hr0) (cwV 0 hts gL_law_X6_cross rfl rfl rfl (by decide +kernel) ⟨Nat.le_of_ble_eq_true rfl, Nat.le_of_ble_eq_true rfl⟩) (PJ.preV hE hJ (rs_recv hE.1 hM (P_pre hPb)) ⟨P_pre hPb, (D_pre hDb).weaken (fun _ _ _ _ => trivial)⟩) rfl rfl hl.1 rfl (lv_room (Nat.le_of_ble_eq_true rfl)) dL_law_389 ⟨by show _ + 0 ≤ 601024; omega, by show _ + 0 ≤ 7293034; omega⟩) hS (fun q _ h => inW_D (D_pre hDb) q h) (fun q h => inW_D (D_pre hDb) q h) rfl (fun H1 locs1 hB9 hz9 hk1 hS => ?_)
  obtain ⟨MC', hM', hP1, hD1⟩ := hB9
  obtain ⟨hP3, hD3⟩ := jnF (w1 := MC') hPb hDb hk1 hP1 hD1
  generalize H1 = H at hP3 hS ⊢
  refine lv_istore (lv' := [(6, .int (nI 0)), (5, .int (nI 1)), (0, .ref b), (1, .ref fe), (2, .ref ob), (3, .ref ou), (4, .int (nI i))]) hx hb dL_law_392 hl (by decide) rfl (fun ls hl => ?_)
  refine lv_aload_n hx hb dL_law_394 rfl (lv_at hl 4 rfl) ?_
  refine pcall (st1 := [.int (nI 1)]) (va_runV (As := []) (rest := []) ⟨hx, hb, hml, hown, hts⟩ (MX_thrown l G hM') (cwV 0 hts gL_law_X6_thrown rfl rfl rfl (by decide +kernel) ⟨Nat.le_of_ble_eq_true rfl, Nat.le_of_ble_eq_true rfl⟩) (PC.preV hE (rs_recv hE.1 hM' (P_pre hP3)) (P_pre hP3)) rfl rfl hl.1 rfl (lv_room (Nat.le_of_ble_eq_true rfl)) dL_law_395 ⟨by show _ + 0 ≤ 601024; omega, by show _ + 0 ≤ 7293034; omega⟩) rfl ?_
  refine lv_iload hx hb dL_law_398 (lv_at hl 1 rfl) ?_
  refine icmp_eqN (tgt := 405) hx hb (by decide) (by decide) dL_law_400 (by decide) (fun _ => ?_) (fun h => absurd rfl h)
  refine lv_iload hx hb dL_law_405 (lv_at hl 1 rfl) ?_
  refine if_neN (tgt := 422) hx hb (by decide) dL_law_407 (by decide) (fun _ => ?_) (fun h => absurd h (by decide))
  refine lv_goto (tgt := 1491) hx hb dL_law_422 (by decide) ?_
  refine W.widen (k := cells + 1) (n := slots + 6) (by omega) (by omega) ?_
  have hP4 : va_P G.1 vwCl ([(ou, .inl (cJ, 1, .inr (.inl lo)))] ++ (WC ++ MC')) H := P_perm ((List.perm_append_comm).trans (by rw [List.append_assoc])) hP3
  have hD4 : va_D (AA s) ([(ou, .inl (cJ, 1, .inr (.inl lo)))] ++ (WC ++ MC')) := D_perm ((List.perm_append_comm).trans (by rw [List.append_assoc])) hD3
  exact kk _ _ _ _ _ _ _ _ _ _ _ _ _ _ _ ⟨hX, PR_mono (by omega) hR, hM', hP4, hD4, hS, lv_sub hl [2, 3, 4, 5, 6] rfl⟩
set_option maxHeartbeats 4000000 in
set_option maxRecDepth 100000 in
theorem seg_pass_ok {p : Program} {l : Launch} {e : Env} {s : State} {m : MethodId} {below : List Frame} {meth : Method} {c : Code} {b L : Nat} {xs : Nat → Int32} {G : eG} {cJ : ClassId} {Q : State → Prop} (hlt : l.stackTraces = false) (hL : LX p s m c b L xs G cJ) {fe ob ou B i : Nat} {f sf : Nat → Int32} {ff : Nat → Nat → Int32} {old sz len : Nat} {tx : Nat → Int32} {hsn thr : Int32} {lo : Nat → Int64} {WC MC : va_W} {H : Heap} {locs : List Loc} {ls : Array Slot} {cells slots : Nat} (hD : LD s G cJ b fe ob ou B f sf ff old sz len tx hsn thr lo WC MC H locs ls i) (hi : i + 4 ≤ L) (hLL : L ≤ 2048) (hB : B + 10000 < 700000000) (hc1 : cells + 1 ≤ 601024) (hs1 : slots + 6 ≤ 7293034) (h : Nat) (h1 : 1 ≤ h) (h2 : h ≤ 100) (e1 : xs (i + 1) = nI h) (kk : ∀ (f sf : Nat → Int32) (ff : Nat → Nat → Int32) (old sz len : Nat) (tx : Nat → Int32) (hsn thr : Int32) (lo : Nat → Int64) (WC MC : va_W) (H : Heap) (locs : List Loc) (ls : Array Slot), LD s G cJ b fe ob ou (B + 10000) f sf ff old sz len tx hsn thr lo WC MC H locs ls i → W p l e room_1 s m #[Value.ref b] below meth c H locs (cells + 1) (slots + 6) Q (F0 m 1491 ls [])) : W p l e room_1 s m #[Value.ref b] below meth c H locs cells slots Q (F0 m 425 ls []) := by
  obtain ⟨hx, hb, hml, hown, hts, hE, hJ0, hKJ, hXs, hbl⟩ := hL
  obtain ⟨hX, hR, hM, hP, hDD, hS, hl⟩ := hD
  have hbA : ¬ AA s b := Nat.not_le.mpr hbl
  have hJ : JX s H := hJ0.kept (fun a ha => hS.2.1 a ha (Nat.not_le.mpr ha))
  refine lv_aload_n hx hb dL_law_425 rfl (lv_at hl 1 rfl) ?_
  refine lv_aload_n hx hb dL_law_426 rfl (lv_at hl 0 rfl) ?_
  refine lv_iload hx hb dL_law_427 (lv_at hl 4 rfl) ?_
  refine lv_iconst (v := nI 1) hx hb dL_law_429 (by decide +kernel) ?_
  refine iaddN hx hb dL_law_430 ?_
  refine va_sld hx hb hXs hbl hbA hS (vp_in_nI (n := i + 1) (by omega) (by omega)) dL_law_431 ?_
  refine tS (st' := [.int (nI h), .ref fe]) (by rw [nI_clamp (by omega), e1]) ?_
  refine lv_aload_n hx hb dL_law_432 rfl (lv_at hl 3 rfl) ?_
  have hPa : va_P G.1 vwCl (([(ou, .inl (cJ, 1, .inr (.inl lo)))] ++ WC) ++ MC) H := by rw [List.append_assoc]; exact hP
  have hDa : va_D (AA s) (([(ou, .inl (cJ, 1, .inr (.inl lo)))] ++ WC) ++ MC) := by rw [List.append_assoc]; exact hDD
  refine mcall (st1 := [.int (nI 0)]) (vx_runSW (As := [.ref fe, .int (nI h), .ref ou]) (rest := []) ⟨hx, hb, hml, hown, hts⟩ (CL_pass_ok l G cJ hX hR (by omega) h h1 h2) (vx_cwSW 3 hts gL_law_L_pass rfl rfl rfl (by decide +kernel) ⟨Nat.le_of_ble_eq_true rfl, Nat.le_of_ble_eq_true rfl⟩) (PL.preS hE hJ hKJ ⟨P_pre hPa, (D_pre hDa).weaken (fun _ _ _ _ => trivial)⟩) rfl rfl hl.1 rfl (lv_room (Nat.le_of_ble_eq_true rfl)) dL_law_433 ⟨by show cells + 0 ≤ 601024; omega, by show slots + 0 ≤ 7293034; omega⟩) hS (fun q _ h => inW_D (D_pre hDa) q h) (fun q h => inW_D (D_pre hDa) q h) rfl (fun H1 locs1 hB9 hz9 hk1 hS => ?_)
  obtain ⟨WC', hX', hP1, hD1⟩ := hB9
  obtain ⟨hP2, hD2⟩ := jnF (w1 := [(ou, .inl (cJ, 1, .inr (.inl (vp_updL lo 0 (((f 50 + nI h)).toInt64)))))] ++ WC') hPa hDa hk1 hP1 hD1
  generalize H1 = H at hP2 hS ⊢
  replace hJ : JX s H := hJ0.kept (fun a ha => hS.2.1 a ha (Nat.not_le.mpr ha))
  have hPb : va_P G.1 vwCl (MC ++ ([(ou, .inl (cJ, 1, .inr (.inl (vp_updL lo 0 (((f 50 + nI h)).toInt64)))))] ++ WC')) H := P_perm List.perm_append_comm hP2
  have hDb : va_D (AA s) (MC ++ ([(ou, .inl (cJ, 1, .inr (.inl (vp_updL lo 0 (((f 50 + nI h)).toInt64)))))] ++ WC')) := D_perm List.perm_append_comm hD2
  refine lv_istore (lv' := [(5, .int (nI 0)), (0, .ref b), (1, .ref fe), (2, .ref ob), (3, .ref ou), (4, .int (nI i))]) hx hb dL_law_436 hl (by decide) rfl (fun ls hl => ?_)
  refine lv_aload_n hx hb dL_law_438 rfl (lv_at hl 3 rfl) ?_
  refine lv_aload_n hx hb dL_law_439 rfl (lv_at hl 1 rfl) ?_
  refine lv_iload hx hb dL_law_440 (lv_at hl 5 rfl) ?_
  refine lv_iconst (v := nI 1) hx hb dL_law_442 (by decide +kernel) ?_
  refine iaddN hx hb dL_law_443 ?_
  refine va_sld hx hb hXs hbl hbA hS (vp_in_nI (n := i + 1) (by omega) (by omega)) dL_law_444 ?_
  refine tS (st' := [.int (nI h), .ref ob]) (by rw [nI_clamp (by omega), e1]) ?_
  refine mcall (st1 := [.int (f 50 + nI h)]) (va_runV (As := [.int (nI h)]) (rest := []) ⟨hx, hb, hml, hown, hts⟩ (MX_pass_ok l G hM hR (by omega) h h1 h2) (cwV 1 hts gL_law_X6_pass rfl rfl rfl (by decide +kernel) ⟨Nat.le_of_ble_eq_true rfl, Nat.le_of_ble_eq_true rfl⟩) (PJ.preV hE hJ (rs_recv hE.1 hM (P_pre hPb)) ⟨P_pre hPb, (D_pre hDb).weaken (fun _ _ _ _ => trivial)⟩) rfl rfl hl.1 rfl (lv_room (Nat.le_of_ble_eq_true rfl)) dL_law_445 ⟨by show _ + 0 ≤ 601024; omega, by show _ + 0 ≤ 7293034; omega⟩) hS (fun q _ h => inW_D (D_pre hDb) q h) (fun q h => inW_D (D_pre hDb) q h) rfl (fun H1 locs1 hB9 hz9 hk1 hS => ?_)
  obtain ⟨MC', hM', hP1, hD1⟩ := hB9
  obtain ⟨hP3, hD3⟩ := jnF (w1 := MC') hPb hDb hk1 hP1 hD1
  generalize H1 = H at hP3 hS ⊢
  refine lv_istore (lv' := [(6, .int (f 50 + nI h)), (5, .int (nI 0)), (0, .ref b), (1, .ref fe), (2, .ref ob), (3, .ref ou), (4, .int (nI i))]) hx hb dL_law_448 hl (by decide) rfl (fun ls hl => ?_)
  refine lv_aload_n hx hb dL_law_450 rfl (lv_at hl 4 rfl) ?_
  refine pcall (st1 := [.int (nI 0)]) (va_runV (As := []) (rest := []) ⟨hx, hb, hml, hown, hts⟩ (MX_thrown l G hM') (cwV 0 hts gL_law_X6_thrown rfl rfl rfl (by decide +kernel) ⟨Nat.le_of_ble_eq_true rfl, Nat.le_of_ble_eq_true rfl⟩) (PC.preV hE (rs_recv hE.1 hM' (P_pre hP3)) (P_pre hP3)) rfl rfl hl.1 rfl (lv_room (Nat.le_of_ble_eq_true rfl)) dL_law_451 ⟨by show _ + 0 ≤ 601024; omega, by show _ + 0 ≤ 7293034; omega⟩) rfl ?_
  refine lv_iload hx hb dL_law_454 (lv_at hl 1 rfl) ?_
  refine icmp_eqN (tgt := 461) hx hb (by decide) (by decide) dL_law_456 (by decide) (fun _ => ?_) (fun h => absurd rfl h)
  refine lv_iload hx hb dL_law_461 (lv_at hl 1 rfl) ?_
  refine if_neN (tgt := 478) hx hb (by decide) dL_law_463 (by decide) (fun h => absurd rfl h) (fun _ => ?_)
  refine lv_aload_n hx hb dL_law_466 rfl (lv_at hl 5 rfl) ?_
  refine lv_iconst (v := nI 0) hx hb dL_law_467 (by decide +kernel) ?_
  refine va_lald hx hb hKJ (P_pre (P_perm ((List.perm_append_comm).trans (by rw [List.append_assoc])) hP3)) 0 0 rfl rfl (vp_in_nI (n := 0) (N := 1) (by decide) (by decide)) dL_law_468 ?_
  refine tS (st' := [.long (((f 50 + nI h)).toInt64)]) (by rw [nI_clamp (by decide), pk_uLs]) ?_
  refine lv_iload hx hb dL_law_469 (lv_at hl 0 rfl) ?_
  refine lv_i2l (v := ((f 50 + nI h)).toInt64) hx hb dL_law_471 rfl ?_
  refine lv_lcmpE hx hb dL_law_472 ?_
  refine if_eqN (tgt := 478) hx hb (by decide) dL_law_473 (by decide) (fun _ => ?_) (fun h => absurd rfl h)
  refine lv_goto (tgt := 1491) hx hb dL_law_478 (by decide) ?_
  refine W.widen (k := cells + 1) (n := slots + 6) (by omega) (by omega) ?_
  have hP4 : va_P G.1 vwCl ([(ou, .inl (cJ, 1, .inr (.inl (vp_updL lo 0 (((f 50 + nI h)).toInt64)))))] ++ (WC' ++ MC')) H := P_perm ((List.perm_append_comm).trans (by rw [List.append_assoc])) hP3
  have hD4 : va_D (AA s) ([(ou, .inl (cJ, 1, .inr (.inl (vp_updL lo 0 (((f 50 + nI h)).toInt64)))))] ++ (WC' ++ MC')) := D_perm ((List.perm_append_comm).trans (by rw [List.append_assoc])) hD3
  exact kk _ _ _ _ _ _ _ _ _ _ _ _ _ _ _ ⟨hX', PR_sav (by omega) hR (okf_mono (by omega) (okf_pas (by omega) (by omega) hR.1)), hM', hP4, hD4, hS, lv_sub hl [2, 3, 4, 5, 6] rfl⟩
set_option maxHeartbeats 4000000 in
set_option maxRecDepth 100000 in
theorem seg_pass_e1 {p : Program} {l : Launch} {e : Env} {s : State} {m : MethodId} {below : List Frame} {meth : Method} {c : Code} {b L : Nat} {xs : Nat → Int32} {G : eG} {cJ : ClassId} {Q : State → Prop} (hlt : l.stackTraces = false) (hL : LX p s m c b L xs G cJ) {fe ob ou B i : Nat} {f sf : Nat → Int32} {ff : Nat → Nat → Int32} {old sz len : Nat} {tx : Nat → Int32} {hsn thr : Int32} {lo : Nat → Int64} {WC MC : va_W} {H : Heap} {locs : List Loc} {ls : Array Slot} {cells slots : Nat} (hD : LD s G cJ b fe ob ou B f sf ff old sz len tx hsn thr lo WC MC H locs ls i) (hi : i + 4 ≤ L) (hLL : L ≤ 2048) (hB : B + 10000 < 700000000) (hc1 : cells + 1 ≤ 601024) (hs1 : slots + 6 ≤ 7293034) (hNo : ¬ (nI 1 ≤ (xs (i + 1)) ∧ (xs (i + 1)) ≤ nI 100))  (kk : ∀ (f sf : Nat → Int32) (ff : Nat → Nat → Int32) (old sz len : Nat) (tx : Nat → Int32) (hsn thr : Int32) (lo : Nat → Int64) (WC MC : va_W) (H : Heap) (locs : List Loc) (ls : Array Slot), LD s G cJ b fe ob ou (B + 10000) f sf ff old sz len tx hsn thr lo WC MC H locs ls i → W p l e room_1 s m #[Value.ref b] below meth c H locs (cells + 1) (slots + 6) Q (F0 m 1491 ls [])) : W p l e room_1 s m #[Value.ref b] below meth c H locs cells slots Q (F0 m 425 ls []) := by
  obtain ⟨hx, hb, hml, hown, hts, hE, hJ0, hKJ, hXs, hbl⟩ := hL
  obtain ⟨hX, hR, hM, hP, hDD, hS, hl⟩ := hD
  have hbA : ¬ AA s b := Nat.not_le.mpr hbl
  have hJ : JX s H := hJ0.kept (fun a ha => hS.2.1 a ha (Nat.not_le.mpr ha))
  refine lv_aload_n hx hb dL_law_425 rfl (lv_at hl 1 rfl) ?_
  refine lv_aload_n hx hb dL_law_426 rfl (lv_at hl 0 rfl) ?_
  refine lv_iload hx hb dL_law_427 (lv_at hl 4 rfl) ?_
  refine lv_iconst (v := nI 1) hx hb dL_law_429 (by decide +kernel) ?_
  refine iaddN hx hb dL_law_430 ?_
  refine va_sld hx hb hXs hbl hbA hS (vp_in_nI (n := i + 1) (by omega) (by omega)) dL_law_431 ?_
  refine tS (st' := [.int (xs (i + 1)), .ref fe]) (by rw [nI_clamp (by omega)]) ?_
  refine lv_aload_n hx hb dL_law_432 rfl (lv_at hl 3 rfl) ?_
  have hPw : va_P G.1 vwCl (WC ++ MC) H := P_pre (P_perm List.perm_append_comm hP)
  have hDw : va_D (AA s) (WC ++ MC) := D_pre (D_perm List.perm_append_comm hDD)
  refine mcall (st1 := [.int (nI 1)]) (vx_runSW (As := [.ref fe, .int (xs (i + 1)), .ref ou]) (rest := []) ⟨hx, hb, hml, hown, hts⟩ (CL_pass_e1 l hlt G cJ hX hR (by omega) (xs (i + 1)) hNo) (vx_cwSW 3 hts gL_law_L_pass rfl rfl rfl (by decide +kernel) ⟨Nat.le_of_ble_eq_true rfl, Nat.le_of_ble_eq_true rfl⟩) (PL.preS hE hJ hKJ ⟨P_pre hPw, (D_pre hDw).weaken (fun _ _ _ _ => trivial)⟩) rfl rfl hl.1 rfl (lv_room (Nat.le_of_ble_eq_true rfl)) dL_law_433 ⟨by show cells + 1 ≤ 601024; omega, by show slots + 6 ≤ 7293034; omega⟩) hS (fun q _ h => (h : False).elim) (fun q h => (h : False).elim) rfl (fun H1 locs1 hB9 hz9 hk1 hS => ?_)
  have hP2 := P_kept hP (fun a ha => hk1 a ha (fun h => h))
  generalize H1 = H at hP2 hS ⊢
  replace hJ : JX s H := hJ0.kept (fun a ha => hS.2.1 a ha (Nat.not_le.mpr ha))
  have hPa : va_P G.1 vwCl (([(ou, .inl (cJ, 1, .inr (.inl lo)))] ++ WC) ++ MC) H := by rw [List.append_assoc]; exact hP2
  have hDa : va_D (AA s) (([(ou, .inl (cJ, 1, .inr (.inl lo)))] ++ WC) ++ MC) := by rw [List.append_assoc]; exact hDD
  have hPb : va_P G.1 vwCl (MC ++ ([(ou, .inl (cJ, 1, .inr (.inl lo)))] ++ WC)) H := P_perm List.perm_append_comm hPa
  have hDb : va_D (AA s) (MC ++ ([(ou, .inl (cJ, 1, .inr (.inl lo)))] ++ WC)) := D_perm List.perm_append_comm hDa
  refine lv_istore (lv' := [(5, .int (nI 1)), (0, .ref b), (1, .ref fe), (2, .ref ob), (3, .ref ou), (4, .int (nI i))]) hx hb dL_law_436 hl (by decide) rfl (fun ls hl => ?_)
  refine lv_aload_n hx hb dL_law_438 rfl (lv_at hl 3 rfl) ?_
  refine lv_aload_n hx hb dL_law_439 rfl (lv_at hl 1 rfl) ?_
  refine lv_iload hx hb dL_law_440 (lv_at hl 5 rfl) ?_
  refine lv_iconst (v := nI 1) hx hb dL_law_442 (by decide +kernel) ?_
  refine iaddN hx hb dL_law_443 ?_
  refine va_sld hx hb hXs hbl hbA hS (vp_in_nI (n := i + 1) (by omega) (by omega)) dL_law_444 ?_
  refine tS (st' := [.int (xs (i + 1)), .ref ob]) (by rw [nI_clamp (by omega)]) ?_
  refine mcall (st1 := [.int (nI 0)]) (va_runV (As := [.int (xs (i + 1))]) (rest := []) ⟨hx, hb, hml, hown, hts⟩ (MX_pass_e1 l G hM hR (by omega) (xs (i + 1)) hNo) (cwV 1 hts gL_law_X6_pass rfl rfl rfl (by decide +kernel) ⟨Nat.le_of_ble_eq_true rfl, Nat.le_of_ble_eq_true rfl⟩) (PJ.preV hE hJ (rs_recv hE.1 hM (P_pre hPb)) ⟨P_pre hPb, (D_pre hDb).weaken (fun _ _ _ _ => trivial)⟩) rfl rfl hl.1 rfl (lv_room (Nat.le_of_ble_eq_true rfl)) dL_law_445 ⟨by show _ + 0 ≤ 601024; omega, by show _ + 0 ≤ 7293034; omega⟩) hS (fun q _ h => inW_D (D_pre hDb) q h) (fun q h => inW_D (D_pre hDb) q h) rfl (fun H1 locs1 hB9 hz9 hk1 hS => ?_)
  obtain ⟨MC', hM', hP1, hD1⟩ := hB9
  obtain ⟨hP3, hD3⟩ := jnF (w1 := MC') hPb hDb hk1 hP1 hD1
  generalize H1 = H at hP3 hS ⊢
  refine lv_istore (lv' := [(6, .int (nI 0)), (5, .int (nI 1)), (0, .ref b), (1, .ref fe), (2, .ref ob), (3, .ref ou), (4, .int (nI i))]) hx hb dL_law_448 hl (by decide) rfl (fun ls hl => ?_)
  refine lv_aload_n hx hb dL_law_450 rfl (lv_at hl 4 rfl) ?_
  refine pcall (st1 := [.int (nI 1)]) (va_runV (As := []) (rest := []) ⟨hx, hb, hml, hown, hts⟩ (MX_thrown l G hM') (cwV 0 hts gL_law_X6_thrown rfl rfl rfl (by decide +kernel) ⟨Nat.le_of_ble_eq_true rfl, Nat.le_of_ble_eq_true rfl⟩) (PC.preV hE (rs_recv hE.1 hM' (P_pre hP3)) (P_pre hP3)) rfl rfl hl.1 rfl (lv_room (Nat.le_of_ble_eq_true rfl)) dL_law_451 ⟨by show _ + 0 ≤ 601024; omega, by show _ + 0 ≤ 7293034; omega⟩) rfl ?_
  refine lv_iload hx hb dL_law_454 (lv_at hl 1 rfl) ?_
  refine icmp_eqN (tgt := 461) hx hb (by decide) (by decide) dL_law_456 (by decide) (fun _ => ?_) (fun h => absurd rfl h)
  refine lv_iload hx hb dL_law_461 (lv_at hl 1 rfl) ?_
  refine if_neN (tgt := 478) hx hb (by decide) dL_law_463 (by decide) (fun _ => ?_) (fun h => absurd h (by decide))
  refine lv_goto (tgt := 1491) hx hb dL_law_478 (by decide) ?_
  refine W.widen (k := cells + 1) (n := slots + 6) (by omega) (by omega) ?_
  have hP4 : va_P G.1 vwCl ([(ou, .inl (cJ, 1, .inr (.inl lo)))] ++ (WC ++ MC')) H := P_perm ((List.perm_append_comm).trans (by rw [List.append_assoc])) hP3
  have hD4 : va_D (AA s) ([(ou, .inl (cJ, 1, .inr (.inl lo)))] ++ (WC ++ MC')) := D_perm ((List.perm_append_comm).trans (by rw [List.append_assoc])) hD3
  exact kk _ _ _ _ _ _ _ _ _ _ _ _ _ _ _ ⟨hX, PR_mono (by omega) hR, hM', hP4, hD4, hS, lv_sub hl [2, 3, 4, 5, 6] rfl⟩
set_option maxHeartbeats 4000000 in
set_option maxRecDepth 100000 in
theorem seg_draw_ok {p : Program} {l : Launch} {e : Env} {s : State} {m : MethodId} {below : List Frame} {meth : Method} {c : Code} {b L : Nat} {xs : Nat → Int32} {G : eG} {cJ : ClassId} {Q : State → Prop} (hlt : l.stackTraces = false) (hL : LX p s m c b L xs G cJ) {fe ob ou B i : Nat} {f sf : Nat → Int32} {ff : Nat → Nat → Int32} {old sz len : Nat} {tx : Nat → Int32} {hsn thr : Int32} {lo : Nat → Int64} {WC MC : va_W} {H : Heap} {locs : List Loc} {ls : Array Slot} {cells slots : Nat} (hD : LD s G cJ b fe ob ou B f sf ff old sz len tx hsn thr lo WC MC H locs ls i) (hi : i + 4 ≤ L) (hLL : L ≤ 2048) (hB : B + 10000 < 700000000) (hc1 : cells + 1 ≤ 601024) (hs1 : slots + 6 ≤ 7293034) (d : Nat) (h1 : 1 ≤ d) (h2 : d ≤ 5) (h3 : d ≤ nn f 49) (e1 : xs (i + 1) = nI d) (kk : ∀ (f sf : Nat → Int32) (ff : Nat → Nat → Int32) (old sz len : Nat) (tx : Nat → Int32) (hsn thr : Int32) (lo : Nat → Int64) (WC MC : va_W) (H : Heap) (locs : List Loc) (ls : Array Slot), LD s G cJ b fe ob ou (B + 10000) f sf ff old sz len tx hsn thr lo WC MC H locs ls i → W p l e room_1 s m #[Value.ref b] below meth c H locs (cells + 1) (slots + 6) Q (F0 m 1491 ls [])) : W p l e room_1 s m #[Value.ref b] below meth c H locs cells slots Q (F0 m 481 ls []) := by
  obtain ⟨hx, hb, hml, hown, hts, hE, hJ0, hKJ, hXs, hbl⟩ := hL
  obtain ⟨hX, hR, hM, hP, hDD, hS, hl⟩ := hD
  have hbA : ¬ AA s b := Nat.not_le.mpr hbl
  have hJ : JX s H := hJ0.kept (fun a ha => hS.2.1 a ha (Nat.not_le.mpr ha))
  have hd : rg f 49 40 := hR.1.2.2.1.2.2.1
  refine lv_aload_n hx hb dL_law_481 rfl (lv_at hl 1 rfl) ?_
  refine lv_aload_n hx hb dL_law_482 rfl (lv_at hl 0 rfl) ?_
  refine lv_iload hx hb dL_law_483 (lv_at hl 4 rfl) ?_
  refine lv_iconst (v := nI 1) hx hb dL_law_485 (by decide +kernel) ?_
  refine iaddN hx hb dL_law_486 ?_
  refine va_sld hx hb hXs hbl hbA hS (vp_in_nI (n := i + 1) (by omega) (by omega)) dL_law_487 ?_
  refine tS (st' := [.int (nI d), .ref fe]) (by rw [nI_clamp (by omega), e1]) ?_
  refine lv_aload_n hx hb dL_law_488 rfl (lv_at hl 3 rfl) ?_
  have hPa : va_P G.1 vwCl (([(ou, .inl (cJ, 1, .inr (.inl lo)))] ++ WC) ++ MC) H := by rw [List.append_assoc]; exact hP
  have hDa : va_D (AA s) (([(ou, .inl (cJ, 1, .inr (.inl lo)))] ++ WC) ++ MC) := by rw [List.append_assoc]; exact hDD
  refine mcall (st1 := [.int (nI 0)]) (vx_runSW (As := [.ref fe, .int (nI d), .ref ou]) (rest := []) ⟨hx, hb, hml, hown, hts⟩ (CL_draw_ok l G cJ hX hR (by omega) hd d h1 h2 h3) (vx_cwSW 3 hts gL_law_L_draw rfl rfl rfl (by decide +kernel) ⟨Nat.le_of_ble_eq_true rfl, Nat.le_of_ble_eq_true rfl⟩) (PL.preS hE hJ hKJ ⟨P_pre hPa, (D_pre hDa).weaken (fun _ _ _ _ => trivial)⟩) rfl rfl hl.1 rfl (lv_room (Nat.le_of_ble_eq_true rfl)) dL_law_489 ⟨by show cells + 0 ≤ 601024; omega, by show slots + 0 ≤ 7293034; omega⟩) hS (fun q _ h => inW_D (D_pre hDa) q h) (fun q h => inW_D (D_pre hDa) q h) rfl (fun H1 locs1 hB9 hz9 hk1 hS => ?_)
  obtain ⟨WC', hX', hP1, hD1⟩ := hB9
  obtain ⟨hP2, hD2⟩ := jnF (w1 := [(ou, .inl (cJ, 1, .inr (.inl (vp_updL lo 0 (((f 49 - nI d)).toInt64)))))] ++ WC') hPa hDa hk1 hP1 hD1
  generalize H1 = H at hP2 hS ⊢
  replace hJ : JX s H := hJ0.kept (fun a ha => hS.2.1 a ha (Nat.not_le.mpr ha))
  have hPb : va_P G.1 vwCl (MC ++ ([(ou, .inl (cJ, 1, .inr (.inl (vp_updL lo 0 (((f 49 - nI d)).toInt64)))))] ++ WC')) H := P_perm List.perm_append_comm hP2
  have hDb : va_D (AA s) (MC ++ ([(ou, .inl (cJ, 1, .inr (.inl (vp_updL lo 0 (((f 49 - nI d)).toInt64)))))] ++ WC')) := D_perm List.perm_append_comm hD2
  refine lv_istore (lv' := [(5, .int (nI 0)), (0, .ref b), (1, .ref fe), (2, .ref ob), (3, .ref ou), (4, .int (nI i))]) hx hb dL_law_492 hl (by decide) rfl (fun ls hl => ?_)
  refine lv_aload_n hx hb dL_law_494 rfl (lv_at hl 3 rfl) ?_
  refine lv_aload_n hx hb dL_law_495 rfl (lv_at hl 1 rfl) ?_
  refine lv_iload hx hb dL_law_496 (lv_at hl 5 rfl) ?_
  refine lv_iconst (v := nI 1) hx hb dL_law_498 (by decide +kernel) ?_
  refine iaddN hx hb dL_law_499 ?_
  refine va_sld hx hb hXs hbl hbA hS (vp_in_nI (n := i + 1) (by omega) (by omega)) dL_law_500 ?_
  refine tS (st' := [.int (nI d), .ref ob]) (by rw [nI_clamp (by omega), e1]) ?_
  refine mcall (st1 := [.int (f 49 - nI d)]) (va_runV (As := [.int (nI d)]) (rest := []) ⟨hx, hb, hml, hown, hts⟩ (MX_draw_ok l G hM hR (by omega) hd d h1 h2 h3) (cwV 1 hts gL_law_X6_draw rfl rfl rfl (by decide +kernel) ⟨Nat.le_of_ble_eq_true rfl, Nat.le_of_ble_eq_true rfl⟩) (PJ.preV hE hJ (rs_recv hE.1 hM (P_pre hPb)) ⟨P_pre hPb, (D_pre hDb).weaken (fun _ _ _ _ => trivial)⟩) rfl rfl hl.1 rfl (lv_room (Nat.le_of_ble_eq_true rfl)) dL_law_501 ⟨by show _ + 0 ≤ 601024; omega, by show _ + 0 ≤ 7293034; omega⟩) hS (fun q _ h => inW_D (D_pre hDb) q h) (fun q h => inW_D (D_pre hDb) q h) rfl (fun H1 locs1 hB9 hz9 hk1 hS => ?_)
  obtain ⟨MC', hM', hP1, hD1⟩ := hB9
  obtain ⟨hP3, hD3⟩ := jnF (w1 := MC') hPb hDb hk1 hP1 hD1
  generalize H1 = H at hP3 hS ⊢
  refine lv_istore (lv' := [(6, .int (f 49 - nI d)), (5, .int (nI 0)), (0, .ref b), (1, .ref fe), (2, .ref ob), (3, .ref ou), (4, .int (nI i))]) hx hb dL_law_504 hl (by decide) rfl (fun ls hl => ?_)
  refine lv_aload_n hx hb dL_law_506 rfl (lv_at hl 4 rfl) ?_
  refine pcall (st1 := [.int (nI 0)]) (va_runV (As := []) (rest := []) ⟨hx, hb, hml, hown, hts⟩ (MX_thrown l G hM') (cwV 0 hts gL_law_X6_thrown rfl rfl rfl (by decide +kernel) ⟨Nat.le_of_ble_eq_true rfl, Nat.le_of_ble_eq_true rfl⟩) (PC.preV hE (rs_recv hE.1 hM' (P_pre hP3)) (P_pre hP3)) rfl rfl hl.1 rfl (lv_room (Nat.le_of_ble_eq_true rfl)) dL_law_507 ⟨by show _ + 0 ≤ 601024; omega, by show _ + 0 ≤ 7293034; omega⟩) rfl ?_
  refine lv_iload hx hb dL_law_510 (lv_at hl 1 rfl) ?_
  refine icmp_eqN (tgt := 517) hx hb (by decide) (by decide) dL_law_512 (by decide) (fun _ => ?_) (fun h => absurd rfl h)
  refine lv_iload hx hb dL_law_517 (lv_at hl 1 rfl) ?_
  refine if_neN (tgt := 534) hx hb (by decide) dL_law_519 (by decide) (fun h => absurd rfl h) (fun _ => ?_)
  refine lv_aload_n hx hb dL_law_522 rfl (lv_at hl 5 rfl) ?_
  refine lv_iconst (v := nI 0) hx hb dL_law_523 (by decide +kernel) ?_
  refine va_lald hx hb hKJ (P_pre (P_perm ((List.perm_append_comm).trans (by rw [List.append_assoc])) hP3)) 0 0 rfl rfl (vp_in_nI (n := 0) (N := 1) (by decide) (by decide)) dL_law_524 ?_
  refine tS (st' := [.long (((f 49 - nI d)).toInt64)]) (by rw [nI_clamp (by decide), pk_uLs]) ?_
  refine lv_iload hx hb dL_law_525 (lv_at hl 0 rfl) ?_
  refine lv_i2l (v := ((f 49 - nI d)).toInt64) hx hb dL_law_527 rfl ?_
  refine lv_lcmpE hx hb dL_law_528 ?_
  refine if_eqN (tgt := 534) hx hb (by decide) dL_law_529 (by decide) (fun _ => ?_) (fun h => absurd rfl h)
  refine lv_goto (tgt := 1491) hx hb dL_law_534 (by decide) ?_
  refine W.widen (k := cells + 1) (n := slots + 6) (by omega) (by omega) ?_
  have hP4 : va_P G.1 vwCl ([(ou, .inl (cJ, 1, .inr (.inl (vp_updL lo 0 (((f 49 - nI d)).toInt64)))))] ++ (WC' ++ MC')) H := P_perm ((List.perm_append_comm).trans (by rw [List.append_assoc])) hP3
  have hD4 : va_D (AA s) ([(ou, .inl (cJ, 1, .inr (.inl (vp_updL lo 0 (((f 49 - nI d)).toInt64)))))] ++ (WC' ++ MC')) := D_perm ((List.perm_append_comm).trans (by rw [List.append_assoc])) hD3
  exact kk _ _ _ _ _ _ _ _ _ _ _ _ _ _ _ ⟨hX', PR_sav (by omega) hR (okf_mono (by omega) (okf_drw (by omega) h2 (by omega) hR.1)), hM', hP4, hD4, hS, lv_sub hl [2, 3, 4, 5, 6] rfl⟩
set_option maxHeartbeats 4000000 in
set_option maxRecDepth 100000 in
theorem seg_draw_e1 {p : Program} {l : Launch} {e : Env} {s : State} {m : MethodId} {below : List Frame} {meth : Method} {c : Code} {b L : Nat} {xs : Nat → Int32} {G : eG} {cJ : ClassId} {Q : State → Prop} (hlt : l.stackTraces = false) (hL : LX p s m c b L xs G cJ) {fe ob ou B i : Nat} {f sf : Nat → Int32} {ff : Nat → Nat → Int32} {old sz len : Nat} {tx : Nat → Int32} {hsn thr : Int32} {lo : Nat → Int64} {WC MC : va_W} {H : Heap} {locs : List Loc} {ls : Array Slot} {cells slots : Nat} (hD : LD s G cJ b fe ob ou B f sf ff old sz len tx hsn thr lo WC MC H locs ls i) (hi : i + 4 ≤ L) (hLL : L ≤ 2048) (hB : B + 10000 < 700000000) (hc1 : cells + 1 ≤ 601024) (hs1 : slots + 6 ≤ 7293034) (hNo : ¬ (nI 1 ≤ (xs (i + 1)) ∧ (xs (i + 1)) ≤ nI 5))  (kk : ∀ (f sf : Nat → Int32) (ff : Nat → Nat → Int32) (old sz len : Nat) (tx : Nat → Int32) (hsn thr : Int32) (lo : Nat → Int64) (WC MC : va_W) (H : Heap) (locs : List Loc) (ls : Array Slot), LD s G cJ b fe ob ou (B + 10000) f sf ff old sz len tx hsn thr lo WC MC H locs ls i → W p l e room_1 s m #[Value.ref b] below meth c H locs (cells + 1) (slots + 6) Q (F0 m 1491 ls [])) : W p l e room_1 s m #[Value.ref b] below meth c H locs cells slots Q (F0 m 481 ls []) := by
  obtain ⟨hx, hb, hml, hown, hts, hE, hJ0, hKJ, hXs, hbl⟩ := hL
  obtain ⟨hX, hR, hM, hP, hDD, hS, hl⟩ := hD
  have hbA : ¬ AA s b := Nat.not_le.mpr hbl
  have hJ : JX s H := hJ0.kept (fun a ha => hS.2.1 a ha (Nat.not_le.mpr ha))
  have hd : rg f 49 40 := hR.1.2.2.1.2.2.1
  refine lv_aload_n hx hb dL_law_481 rfl (lv_at hl 1 rfl) ?_
  refine lv_aload_n hx hb dL_law_482 rfl (lv_at hl 0 rfl) ?_
  refine lv_iload hx hb dL_law_483 (lv_at hl 4 rfl) ?_
  refine lv_iconst (v := nI 1) hx hb dL_law_485 (by decide +kernel) ?_
  refine iaddN hx hb dL_law_486 ?_
  refine va_sld hx hb hXs hbl hbA hS (vp_in_nI (n := i + 1) (by omega) (by omega)) dL_law_487 ?_
  refine tS (st' := [.int (xs (i + 1)), .ref fe]) (by rw [nI_clamp (by omega)]) ?_
  refine lv_aload_n hx hb dL_law_488 rfl (lv_at hl 3 rfl) ?_
  have hPw : va_P G.1 vwCl (WC ++ MC) H := P_pre (P_perm List.perm_append_comm hP)
  have hDw : va_D (AA s) (WC ++ MC) := D_pre (D_perm List.perm_append_comm hDD)
  refine mcall (st1 := [.int (nI 1)]) (vx_runSW (As := [.ref fe, .int (xs (i + 1)), .ref ou]) (rest := []) ⟨hx, hb, hml, hown, hts⟩ (CL_draw_e1 l hlt G cJ hX hR (by omega) (xs (i + 1)) hNo) (vx_cwSW 3 hts gL_law_L_draw rfl rfl rfl (by decide +kernel) ⟨Nat.le_of_ble_eq_true rfl, Nat.le_of_ble_eq_true rfl⟩) (PL.preS hE hJ hKJ ⟨P_pre hPw, (D_pre hDw).weaken (fun _ _ _ _ => trivial)⟩) rfl rfl hl.1 rfl (lv_room (Nat.le_of_ble_eq_true rfl)) dL_law_489 ⟨by show cells + 1 ≤ 601024; omega, by show slots + 6 ≤ 7293034; omega⟩) hS (fun q _ h => (h : False).elim) (fun q h => (h : False).elim) rfl (fun H1 locs1 hB9 hz9 hk1 hS => ?_)
  have hP2 := P_kept hP (fun a ha => hk1 a ha (fun h => h))
  generalize H1 = H at hP2 hS ⊢
  replace hJ : JX s H := hJ0.kept (fun a ha => hS.2.1 a ha (Nat.not_le.mpr ha))
  have hPa : va_P G.1 vwCl (([(ou, .inl (cJ, 1, .inr (.inl lo)))] ++ WC) ++ MC) H := by rw [List.append_assoc]; exact hP2
  have hDa : va_D (AA s) (([(ou, .inl (cJ, 1, .inr (.inl lo)))] ++ WC) ++ MC) := by rw [List.append_assoc]; exact hDD
  have hPb : va_P G.1 vwCl (MC ++ ([(ou, .inl (cJ, 1, .inr (.inl lo)))] ++ WC)) H := P_perm List.perm_append_comm hPa
  have hDb : va_D (AA s) (MC ++ ([(ou, .inl (cJ, 1, .inr (.inl lo)))] ++ WC)) := D_perm List.perm_append_comm hDa
  refine lv_istore (lv' := [(5, .int (nI 1)), (0, .ref b), (1, .ref fe), (2, .ref ob), (3, .ref ou), (4, .int (nI i))]) hx hb dL_law_492 hl (by decide) rfl (fun ls hl => ?_)
  refine lv_aload_n hx hb dL_law_494 rfl (lv_at hl 3 rfl) ?_
  refine lv_aload_n hx hb dL_law_495 rfl (lv_at hl 1 rfl) ?_
  refine lv_iload hx hb dL_law_496 (lv_at hl 5 rfl) ?_
  refine lv_iconst (v := nI 1) hx hb dL_law_498 (by decide +kernel) ?_
  refine iaddN hx hb dL_law_499 ?_
  refine va_sld hx hb hXs hbl hbA hS (vp_in_nI (n := i + 1) (by omega) (by omega)) dL_law_500 ?_
  refine tS (st' := [.int (xs (i + 1)), .ref ob]) (by rw [nI_clamp (by omega)]) ?_
  refine mcall (st1 := [.int (nI 0)]) (va_runV (As := [.int (xs (i + 1))]) (rest := []) ⟨hx, hb, hml, hown, hts⟩ (MX_draw_e1 l G hM hR (by omega) (xs (i + 1)) hNo) (cwV 1 hts gL_law_X6_draw rfl rfl rfl (by decide +kernel) ⟨Nat.le_of_ble_eq_true rfl, Nat.le_of_ble_eq_true rfl⟩) (PJ.preV hE hJ (rs_recv hE.1 hM (P_pre hPb)) ⟨P_pre hPb, (D_pre hDb).weaken (fun _ _ _ _ => trivial)⟩) rfl rfl hl.1 rfl (lv_room (Nat.le_of_ble_eq_true rfl)) dL_law_501 ⟨by show _ + 0 ≤ 601024; omega, by show _ + 0 ≤ 7293034; omega⟩) hS (fun q _ h => inW_D (D_pre hDb) q h) (fun q h => inW_D (D_pre hDb) q h) rfl (fun H1 locs1 hB9 hz9 hk1 hS => ?_)
  obtain ⟨MC', hM', hP1, hD1⟩ := hB9
  obtain ⟨hP3, hD3⟩ := jnF (w1 := MC') hPb hDb hk1 hP1 hD1
  generalize H1 = H at hP3 hS ⊢
  refine lv_istore (lv' := [(6, .int (nI 0)), (5, .int (nI 1)), (0, .ref b), (1, .ref fe), (2, .ref ob), (3, .ref ou), (4, .int (nI i))]) hx hb dL_law_504 hl (by decide) rfl (fun ls hl => ?_)
  refine lv_aload_n hx hb dL_law_506 rfl (lv_at hl 4 rfl) ?_
  refine pcall (st1 := [.int (nI 1)]) (va_runV (As := []) (rest := []) ⟨hx, hb, hml, hown, hts⟩ (MX_thrown l G hM') (cwV 0 hts gL_law_X6_thrown rfl rfl rfl (by decide +kernel) ⟨Nat.le_of_ble_eq_true rfl, Nat.le_of_ble_eq_true rfl⟩) (PC.preV hE (rs_recv hE.1 hM' (P_pre hP3)) (P_pre hP3)) rfl rfl hl.1 rfl (lv_room (Nat.le_of_ble_eq_true rfl)) dL_law_507 ⟨by show _ + 0 ≤ 601024; omega, by show _ + 0 ≤ 7293034; omega⟩) rfl ?_
  refine lv_iload hx hb dL_law_510 (lv_at hl 1 rfl) ?_
  refine icmp_eqN (tgt := 517) hx hb (by decide) (by decide) dL_law_512 (by decide) (fun _ => ?_) (fun h => absurd rfl h)
  refine lv_iload hx hb dL_law_517 (lv_at hl 1 rfl) ?_
  refine if_neN (tgt := 534) hx hb (by decide) dL_law_519 (by decide) (fun _ => ?_) (fun h => absurd h (by decide))
  refine lv_goto (tgt := 1491) hx hb dL_law_534 (by decide) ?_
  refine W.widen (k := cells + 1) (n := slots + 6) (by omega) (by omega) ?_
  have hP4 : va_P G.1 vwCl ([(ou, .inl (cJ, 1, .inr (.inl lo)))] ++ (WC ++ MC')) H := P_perm ((List.perm_append_comm).trans (by rw [List.append_assoc])) hP3
  have hD4 : va_D (AA s) ([(ou, .inl (cJ, 1, .inr (.inl lo)))] ++ (WC ++ MC')) := D_perm ((List.perm_append_comm).trans (by rw [List.append_assoc])) hD3
  exact kk _ _ _ _ _ _ _ _ _ _ _ _ _ _ _ ⟨hX, PR_mono (by omega) hR, hM', hP4, hD4, hS, lv_sub hl [2, 3, 4, 5, 6] rfl⟩
set_option maxHeartbeats 4000000 in
set_option maxRecDepth 100000 in
theorem seg_draw_e2 {p : Program} {l : Launch} {e : Env} {s : State} {m : MethodId} {below : List Frame} {meth : Method} {c : Code} {b L : Nat} {xs : Nat → Int32} {G : eG} {cJ : ClassId} {Q : State → Prop} (hlt : l.stackTraces = false) (hL : LX p s m c b L xs G cJ) {fe ob ou B i : Nat} {f sf : Nat → Int32} {ff : Nat → Nat → Int32} {old sz len : Nat} {tx : Nat → Int32} {hsn thr : Int32} {lo : Nat → Int64} {WC MC : va_W} {H : Heap} {locs : List Loc} {ls : Array Slot} {cells slots : Nat} (hD : LD s G cJ b fe ob ou B f sf ff old sz len tx hsn thr lo WC MC H locs ls i) (hi : i + 4 ≤ L) (hLL : L ≤ 2048) (hB : B + 10000 < 700000000) (hc1 : cells + 1 ≤ 601024) (hs1 : slots + 6 ≤ 7293034) (d : Nat) (h1 : 1 ≤ d) (h2 : d ≤ 5) (h3 : ¬ d ≤ nn f 49) (e1 : xs (i + 1) = nI d) (kk : ∀ (f sf : Nat → Int32) (ff : Nat → Nat → Int32) (old sz len : Nat) (tx : Nat → Int32) (hsn thr : Int32) (lo : Nat → Int64) (WC MC : va_W) (H : Heap) (locs : List Loc) (ls : Array Slot), LD s G cJ b fe ob ou (B + 10000) f sf ff old sz len tx hsn thr lo WC MC H locs ls i → W p l e room_1 s m #[Value.ref b] below meth c H locs (cells + 1) (slots + 6) Q (F0 m 1491 ls [])) : W p l e room_1 s m #[Value.ref b] below meth c H locs cells slots Q (F0 m 481 ls []) := by
  obtain ⟨hx, hb, hml, hown, hts, hE, hJ0, hKJ, hXs, hbl⟩ := hL
  obtain ⟨hX, hR, hM, hP, hDD, hS, hl⟩ := hD
  have hbA : ¬ AA s b := Nat.not_le.mpr hbl
  have hJ : JX s H := hJ0.kept (fun a ha => hS.2.1 a ha (Nat.not_le.mpr ha))
  have hd : rg f 49 40 := hR.1.2.2.1.2.2.1
  refine lv_aload_n hx hb dL_law_481 rfl (lv_at hl 1 rfl) ?_
  refine lv_aload_n hx hb dL_law_482 rfl (lv_at hl 0 rfl) ?_
  refine lv_iload hx hb dL_law_483 (lv_at hl 4 rfl) ?_
  refine lv_iconst (v := nI 1) hx hb dL_law_485 (by decide +kernel) ?_
  refine iaddN hx hb dL_law_486 ?_
  refine va_sld hx hb hXs hbl hbA hS (vp_in_nI (n := i + 1) (by omega) (by omega)) dL_law_487 ?_
  refine tS (st' := [.int (nI d), .ref fe]) (by rw [nI_clamp (by omega), e1]) ?_
  refine lv_aload_n hx hb dL_law_488 rfl (lv_at hl 3 rfl) ?_
  have hPw : va_P G.1 vwCl (WC ++ MC) H := P_pre (P_perm List.perm_append_comm hP)
  have hDw : va_D (AA s) (WC ++ MC) := D_pre (D_perm List.perm_append_comm hDD)
  refine mcall (st1 := [.int (nI 2)]) (vx_runSW (As := [.ref fe, .int (nI d), .ref ou]) (rest := []) ⟨hx, hb, hml, hown, hts⟩ (CL_draw_e2 l hlt G cJ hX hR (by omega) hd d h1 h2 h3) (vx_cwSW 3 hts gL_law_L_draw rfl rfl rfl (by decide +kernel) ⟨Nat.le_of_ble_eq_true rfl, Nat.le_of_ble_eq_true rfl⟩) (PL.preS hE hJ hKJ ⟨P_pre hPw, (D_pre hDw).weaken (fun _ _ _ _ => trivial)⟩) rfl rfl hl.1 rfl (lv_room (Nat.le_of_ble_eq_true rfl)) dL_law_489 ⟨by show cells + 1 ≤ 601024; omega, by show slots + 6 ≤ 7293034; omega⟩) hS (fun q _ h => (h : False).elim) (fun q h => (h : False).elim) rfl (fun H1 locs1 hB9 hz9 hk1 hS => ?_)
  have hP2 := P_kept hP (fun a ha => hk1 a ha (fun h => h))
  generalize H1 = H at hP2 hS ⊢
  replace hJ : JX s H := hJ0.kept (fun a ha => hS.2.1 a ha (Nat.not_le.mpr ha))
  have hPa : va_P G.1 vwCl (([(ou, .inl (cJ, 1, .inr (.inl lo)))] ++ WC) ++ MC) H := by rw [List.append_assoc]; exact hP2
  have hDa : va_D (AA s) (([(ou, .inl (cJ, 1, .inr (.inl lo)))] ++ WC) ++ MC) := by rw [List.append_assoc]; exact hDD
  have hPb : va_P G.1 vwCl (MC ++ ([(ou, .inl (cJ, 1, .inr (.inl lo)))] ++ WC)) H := P_perm List.perm_append_comm hPa
  have hDb : va_D (AA s) (MC ++ ([(ou, .inl (cJ, 1, .inr (.inl lo)))] ++ WC)) := D_perm List.perm_append_comm hDa
  refine lv_istore (lv' := [(5, .int (nI 2)), (0, .ref b), (1, .ref fe), (2, .ref ob), (3, .ref ou), (4, .int (nI i))]) hx hb dL_law_492 hl (by decide) rfl (fun ls hl => ?_)
  refine lv_aload_n hx hb dL_law_494 rfl (lv_at hl 3 rfl) ?_
  refine lv_aload_n hx hb dL_law_495 rfl (lv_at hl 1 rfl) ?_
  refine lv_iload hx hb dL_law_496 (lv_at hl 5 rfl) ?_
  refine lv_iconst (v := nI 1) hx hb dL_law_498 (by decide +kernel) ?_
  refine iaddN hx hb dL_law_499 ?_
  refine va_sld hx hb hXs hbl hbA hS (vp_in_nI (n := i + 1) (by omega) (by omega)) dL_law_500 ?_
  refine tS (st' := [.int (nI d), .ref ob]) (by rw [nI_clamp (by omega), e1]) ?_
  refine mcall (st1 := [.int (nI 0)]) (va_runV (As := [.int (nI d)]) (rest := []) ⟨hx, hb, hml, hown, hts⟩ (MX_draw_e2 l G hM hR (by omega) hd d h1 h2 (by omega)) (cwV 1 hts gL_law_X6_draw rfl rfl rfl (by decide +kernel) ⟨Nat.le_of_ble_eq_true rfl, Nat.le_of_ble_eq_true rfl⟩) (PJ.preV hE hJ (rs_recv hE.1 hM (P_pre hPb)) ⟨P_pre hPb, (D_pre hDb).weaken (fun _ _ _ _ => trivial)⟩) rfl rfl hl.1 rfl (lv_room (Nat.le_of_ble_eq_true rfl)) dL_law_501 ⟨by show _ + 0 ≤ 601024; omega, by show _ + 0 ≤ 7293034; omega⟩) hS (fun q _ h => inW_D (D_pre hDb) q h) (fun q h => inW_D (D_pre hDb) q h) rfl (fun H1 locs1 hB9 hz9 hk1 hS => ?_)
  obtain ⟨MC', hM', hP1, hD1⟩ := hB9
  obtain ⟨hP3, hD3⟩ := jnF (w1 := MC') hPb hDb hk1 hP1 hD1
  generalize H1 = H at hP3 hS ⊢
  refine lv_istore (lv' := [(6, .int (nI 0)), (5, .int (nI 2)), (0, .ref b), (1, .ref fe), (2, .ref ob), (3, .ref ou), (4, .int (nI i))]) hx hb dL_law_504 hl (by decide) rfl (fun ls hl => ?_)
  refine lv_aload_n hx hb dL_law_506 rfl (lv_at hl 4 rfl) ?_
  refine pcall (st1 := [.int (nI 2)]) (va_runV (As := []) (rest := []) ⟨hx, hb, hml, hown, hts⟩ (MX_thrown l G hM') (cwV 0 hts gL_law_X6_thrown rfl rfl rfl (by decide +kernel) ⟨Nat.le_of_ble_eq_true rfl, Nat.le_of_ble_eq_true rfl⟩) (PC.preV hE (rs_recv hE.1 hM' (P_pre hP3)) (P_pre hP3)) rfl rfl hl.1 rfl (lv_room (Nat.le_of_ble_eq_true rfl)) dL_law_507 ⟨by show _ + 0 ≤ 601024; omega, by show _ + 0 ≤ 7293034; omega⟩) rfl ?_
  refine lv_iload hx hb dL_law_510 (lv_at hl 1 rfl) ?_
  refine icmp_eqN (tgt := 517) hx hb (by decide) (by decide) dL_law_512 (by decide) (fun _ => ?_) (fun h => absurd rfl h)
  refine lv_iload hx hb dL_law_517 (lv_at hl 1 rfl) ?_
  refine if_neN (tgt := 534) hx hb (by decide) dL_law_519 (by decide) (fun _ => ?_) (fun h => absurd h (by decide))
  refine lv_goto (tgt := 1491) hx hb dL_law_534 (by decide) ?_
  refine W.widen (k := cells + 1) (n := slots + 6) (by omega) (by omega) ?_
  have hP4 : va_P G.1 vwCl ([(ou, .inl (cJ, 1, .inr (.inl lo)))] ++ (WC ++ MC')) H := P_perm ((List.perm_append_comm).trans (by rw [List.append_assoc])) hP3
  have hD4 : va_D (AA s) ([(ou, .inl (cJ, 1, .inr (.inl lo)))] ++ (WC ++ MC')) := D_perm ((List.perm_append_comm).trans (by rw [List.append_assoc])) hD3
  exact kk _ _ _ _ _ _ _ _ _ _ _ _ _ _ _ ⟨hX, PR_mono (by omega) hR, hM', hP4, hD4, hS, lv_sub hl [2, 3, 4, 5, 6] rfl⟩
set_option maxHeartbeats 4000000 in
set_option maxRecDepth 100000 in
theorem seg_set_ok {p : Program} {l : Launch} {e : Env} {s : State} {m : MethodId} {below : List Frame} {meth : Method} {c : Code} {b L : Nat} {xs : Nat → Int32} {G : eG} {cJ : ClassId} {Q : State → Prop} (hlt : l.stackTraces = false) (hL : LX p s m c b L xs G cJ) {fe ob ou B i : Nat} {f sf : Nat → Int32} {ff : Nat → Nat → Int32} {old sz len : Nat} {tx : Nat → Int32} {hsn thr : Int32} {lo : Nat → Int64} {WC MC : va_W} {H : Heap} {locs : List Loc} {ls : Array Slot} {cells slots : Nat} (hD : LD s G cJ b fe ob ou B f sf ff old sz len tx hsn thr lo WC MC H locs ls i) (hi : i + 4 ≤ L) (hLL : L ≤ 2048) (hB : B + 10000 < 700000000) (hc1 : cells + 1 ≤ 601024) (hs1 : slots + 6 ≤ 7293034) (s0 : Nat) (v : Nat) (hs3 : s0 < 3) (h1 : stLo s0 ≤ v) (h2 : v ≤ stHi s0) (e1 : xs (i + 1) = nI s0) (e2 : xs (i + 2) = nI v) (kk : ∀ (f sf : Nat → Int32) (ff : Nat → Nat → Int32) (old sz len : Nat) (tx : Nat → Int32) (hsn thr : Int32) (lo : Nat → Int64) (WC MC : va_W) (H : Heap) (locs : List Loc) (ls : Array Slot), LD s G cJ b fe ob ou (B + 10000) f sf ff old sz len tx hsn thr lo WC MC H locs ls i → W p l e room_1 s m #[Value.ref b] below meth c H locs (cells + 1) (slots + 6) Q (F0 m 1491 ls [])) : W p l e room_1 s m #[Value.ref b] below meth c H locs cells slots Q (F0 m 537 ls []) := by
  obtain ⟨hx, hb, hml, hown, hts, hE, hJ0, hKJ, hXs, hbl⟩ := hL
  obtain ⟨hX, hR, hM, hP, hDD, hS, hl⟩ := hD
  have hbA : ¬ AA s b := Nat.not_le.mpr hbl
  have hJ : JX s H := hJ0.kept (fun a ha => hS.2.1 a ha (Nat.not_le.mpr ha))
  refine lv_aload_n hx hb dL_law_537 rfl (lv_at hl 1 rfl) ?_
  refine lv_aload_n hx hb dL_law_538 rfl (lv_at hl 0 rfl) ?_
  refine lv_iload hx hb dL_law_539 (lv_at hl 4 rfl) ?_
  refine lv_iconst (v := nI 1) hx hb dL_law_541 (by decide +kernel) ?_
  refine iaddN hx hb dL_law_542 ?_
  refine va_sld hx hb hXs hbl hbA hS (vp_in_nI (n := i + 1) (by omega) (by omega)) dL_law_543 ?_
  refine tS (st' := [.int (nI s0), .ref fe]) (by rw [nI_clamp (by omega), e1]) ?_
  refine lv_aload_n hx hb dL_law_544 rfl (lv_at hl 0 rfl) ?_
  refine lv_iload hx hb dL_law_545 (lv_at hl 4 rfl) ?_
  refine lv_iconst (v := nI 2) hx hb dL_law_547 (by decide +kernel) ?_
  refine iaddN hx hb dL_law_548 ?_
  refine va_sld hx hb hXs hbl hbA hS (vp_in_nI (n := i + 2) (by omega) (by omega)) dL_law_549 ?_
  refine tS (st' := [.int (nI v), .int (nI s0), .ref fe]) (by rw [nI_clamp (by omega), e2]) ?_
  refine lv_aload_n hx hb dL_law_550 rfl (lv_at hl 3 rfl) ?_
  have hPa : va_P G.1 vwCl (([(ou, .inl (cJ, 1, .inr (.inl lo)))] ++ WC) ++ MC) H := by rw [List.append_assoc]; exact hP
  have hDa : va_D (AA s) (([(ou, .inl (cJ, 1, .inr (.inl lo)))] ++ WC) ++ MC) := by rw [List.append_assoc]; exact hDD
  refine mcall (st1 := [.int (nI 0)]) (vx_runSW (As := [.ref fe, .int (nI s0), .int (nI v), .ref ou]) (rest := []) ⟨hx, hb, hml, hown, hts⟩ (CL_set_ok l G cJ hX hR (by omega) s0 v hs3 h1 h2) (vx_cwSW 4 hts gL_law_L_set rfl rfl rfl (by decide +kernel) ⟨Nat.le_of_ble_eq_true rfl, Nat.le_of_ble_eq_true rfl⟩) (PL.preS hE hJ hKJ ⟨P_pre hPa, (D_pre hDa).weaken (fun _ _ _ _ => trivial)⟩) rfl rfl hl.1 rfl (lv_room (Nat.le_of_ble_eq_true rfl)) dL_law_551 ⟨by show cells + 0 ≤ 601024; omega, by show slots + 0 ≤ 7293034; omega⟩) hS (fun q _ h => inW_D (D_pre hDa) q h) (fun q h => inW_D (D_pre hDa) q h) rfl (fun H1 locs1 hB9 hz9 hk1 hS => ?_)
  obtain ⟨WC', hX', hP1, hD1⟩ := hB9
  obtain ⟨hP2, hD2⟩ := jnF (w1 := [(ou, .inl (cJ, 1, .inr (.inl (vp_updL lo 0 (((f s0)).toInt64)))))] ++ WC') hPa hDa hk1 hP1 hD1
  generalize H1 = H at hP2 hS ⊢
  replace hJ : JX s H := hJ0.kept (fun a ha => hS.2.1 a ha (Nat.not_le.mpr ha))
  have hPb : va_P G.1 vwCl (MC ++ ([(ou, .inl (cJ, 1, .inr (.inl (vp_updL lo 0 (((f s0)).toInt64)))))] ++ WC')) H := P_perm List.perm_append_comm hP2
  have hDb : va_D (AA s) (MC ++ ([(ou, .inl (cJ, 1, .inr (.inl (vp_updL lo 0 (((f s0)).toInt64)))))] ++ WC')) := D_perm List.perm_append_comm hD2
  refine lv_istore (lv' := [(5, .int (nI 0)), (0, .ref b), (1, .ref fe), (2, .ref ob), (3, .ref ou), (4, .int (nI i))]) hx hb dL_law_554 hl (by decide) rfl (fun ls hl => ?_)
  refine lv_aload_n hx hb dL_law_556 rfl (lv_at hl 3 rfl) ?_
  refine lv_aload_n hx hb dL_law_557 rfl (lv_at hl 1 rfl) ?_
  refine lv_iload hx hb dL_law_558 (lv_at hl 5 rfl) ?_
  refine lv_iconst (v := nI 1) hx hb dL_law_560 (by decide +kernel) ?_
  refine iaddN hx hb dL_law_561 ?_
  refine va_sld hx hb hXs hbl hbA hS (vp_in_nI (n := i + 1) (by omega) (by omega)) dL_law_562 ?_
  refine tS (st' := [.int (nI s0), .ref ob]) (by rw [nI_clamp (by omega), e1]) ?_
  refine lv_aload_n hx hb dL_law_563 rfl (lv_at hl 1 rfl) ?_
  refine lv_iload hx hb dL_law_564 (lv_at hl 5 rfl) ?_
  refine lv_iconst (v := nI 2) hx hb dL_law_566 (by decide +kernel) ?_
  refine iaddN hx hb dL_law_567 ?_
  refine va_sld hx hb hXs hbl hbA hS (vp_in_nI (n := i + 2) (by omega) (by omega)) dL_law_568 ?_
  refine tS (st' := [.int (nI v), .int (nI s0), .ref ob]) (by rw [nI_clamp (by omega), e2]) ?_
  refine mcall (st1 := [.int (f s0)]) (va_runV (As := [.int (nI s0), .int (nI v)]) (rest := []) ⟨hx, hb, hml, hown, hts⟩ (MX_set_ok l G hM hR (by omega) s0 v hs3 h1 h2) (cwV 2 hts gL_law_X6_set rfl rfl rfl (by decide +kernel) ⟨Nat.le_of_ble_eq_true rfl, Nat.le_of_ble_eq_true rfl⟩) (PJ.preV hE hJ (rs_recv hE.1 hM (P_pre hPb)) ⟨P_pre hPb, (D_pre hDb).weaken (fun _ _ _ _ => trivial)⟩) rfl rfl hl.1 rfl (lv_room (Nat.le_of_ble_eq_true rfl)) dL_law_569 ⟨by show _ + 0 ≤ 601024; omega, by show _ + 0 ≤ 7293034; omega⟩) hS (fun q _ h => inW_D (D_pre hDb) q h) (fun q h => inW_D (D_pre hDb) q h) rfl (fun H1 locs1 hB9 hz9 hk1 hS => ?_)
  obtain ⟨MC', hM', hP1, hD1⟩ := hB9
  obtain ⟨hP3, hD3⟩ := jnF (w1 := MC') hPb hDb hk1 hP1 hD1
  generalize H1 = H at hP3 hS ⊢
  refine lv_istore (lv' := [(6, .int (f s0)), (5, .int (nI 0)), (0, .ref b), (1, .ref fe), (2, .ref ob), (3, .ref ou), (4, .int (nI i))]) hx hb dL_law_572 hl (by decide) rfl (fun ls hl => ?_)
  refine lv_aload_n hx hb dL_law_574 rfl (lv_at hl 4 rfl) ?_
  refine pcall (st1 := [.int (nI 0)]) (va_runV (As := []) (rest := []) ⟨hx, hb, hml, hown, hts⟩ (MX_thrown l G hM') (cwV 0 hts gL_law_X6_thrown rfl rfl rfl (by decide +kernel) ⟨Nat.le_of_ble_eq_true rfl, Nat.le_of_ble_eq_true rfl⟩) (PC.preV hE (rs_recv hE.1 hM' (P_pre hP3)) (P_pre hP3)) rfl rfl hl.1 rfl (lv_room (Nat.le_of_ble_eq_true rfl)) dL_law_575 ⟨by show _ + 0 ≤ 601024; omega, by show _ + 0 ≤ 7293034; omega⟩) rfl ?_
  refine lv_iload hx hb dL_law_578 (lv_at hl 1 rfl) ?_
  refine icmp_eqN (tgt := 585) hx hb (by decide) (by decide) dL_law_580 (by decide) (fun _ => ?_) (fun h => absurd rfl h)
  refine lv_iload hx hb dL_law_585 (lv_at hl 1 rfl) ?_
  refine if_neN (tgt := 602) hx hb (by decide) dL_law_587 (by decide) (fun h => absurd rfl h) (fun _ => ?_)
  refine lv_aload_n hx hb dL_law_590 rfl (lv_at hl 5 rfl) ?_
  refine lv_iconst (v := nI 0) hx hb dL_law_591 (by decide +kernel) ?_
  refine va_lald hx hb hKJ (P_pre (P_perm ((List.perm_append_comm).trans (by rw [List.append_assoc])) hP3)) 0 0 rfl rfl (vp_in_nI (n := 0) (N := 1) (by decide) (by decide)) dL_law_592 ?_
  refine tS (st' := [.long (((f s0)).toInt64)]) (by rw [nI_clamp (by decide), pk_uLs]) ?_
  refine lv_iload hx hb dL_law_593 (lv_at hl 0 rfl) ?_
  refine lv_i2l (v := ((f s0)).toInt64) hx hb dL_law_595 rfl ?_
  refine lv_lcmpE hx hb dL_law_596 ?_
  refine if_eqN (tgt := 602) hx hb (by decide) dL_law_597 (by decide) (fun _ => ?_) (fun h => absurd rfl h)
  refine lv_goto (tgt := 1491) hx hb dL_law_602 (by decide) ?_
  refine W.widen (k := cells + 1) (n := slots + 6) (by omega) (by omega) ?_
  have hP4 : va_P G.1 vwCl ([(ou, .inl (cJ, 1, .inr (.inl (vp_updL lo 0 (((f s0)).toInt64)))))] ++ (WC' ++ MC')) H := P_perm ((List.perm_append_comm).trans (by rw [List.append_assoc])) hP3
  have hD4 : va_D (AA s) ([(ou, .inl (cJ, 1, .inr (.inl (vp_updL lo 0 (((f s0)).toInt64)))))] ++ (WC' ++ MC')) := D_perm ((List.perm_append_comm).trans (by rw [List.append_assoc])) hD3
  exact kk _ _ _ _ _ _ _ _ _ _ _ _ _ _ _ ⟨hX', PR_sav (by omega) hR (okf_mono (by omega) (okf_set hR.1 hs3 h1 h2)), hM', hP4, hD4, hS, lv_sub hl [2, 3, 4, 5, 6] rfl⟩
set_option maxHeartbeats 4000000 in
set_option maxRecDepth 100000 in
theorem seg_set_e1 {p : Program} {l : Launch} {e : Env} {s : State} {m : MethodId} {below : List Frame} {meth : Method} {c : Code} {b L : Nat} {xs : Nat → Int32} {G : eG} {cJ : ClassId} {Q : State → Prop} (hlt : l.stackTraces = false) (hL : LX p s m c b L xs G cJ) {fe ob ou B i : Nat} {f sf : Nat → Int32} {ff : Nat → Nat → Int32} {old sz len : Nat} {tx : Nat → Int32} {hsn thr : Int32} {lo : Nat → Int64} {WC MC : va_W} {H : Heap} {locs : List Loc} {ls : Array Slot} {cells slots : Nat} (hD : LD s G cJ b fe ob ou B f sf ff old sz len tx hsn thr lo WC MC H locs ls i) (hi : i + 4 ≤ L) (hLL : L ≤ 2048) (hB : B + 10000 < 700000000) (hc1 : cells + 1 ≤ 601024) (hs1 : slots + 6 ≤ 7293034) (hNo : ¬ (nI 0 ≤ (xs (i + 1)) ∧ (xs (i + 1)) ≤ nI 2))  (kk : ∀ (f sf : Nat → Int32) (ff : Nat → Nat → Int32) (old sz len : Nat) (tx : Nat → Int32) (hsn thr : Int32) (lo : Nat → Int64) (WC MC : va_W) (H : Heap) (locs : List Loc) (ls : Array Slot), LD s G cJ b fe ob ou (B + 10000) f sf ff old sz len tx hsn thr lo WC MC H locs ls i → W p l e room_1 s m #[Value.ref b] below meth c H locs (cells + 1) (slots + 6) Q (F0 m 1491 ls [])) : W p l e room_1 s m #[Value.ref b] below meth c H locs cells slots Q (F0 m 537 ls []) := by
  obtain ⟨hx, hb, hml, hown, hts, hE, hJ0, hKJ, hXs, hbl⟩ := hL
  obtain ⟨hX, hR, hM, hP, hDD, hS, hl⟩ := hD
  have hbA : ¬ AA s b := Nat.not_le.mpr hbl
  have hJ : JX s H := hJ0.kept (fun a ha => hS.2.1 a ha (Nat.not_le.mpr ha))
  refine lv_aload_n hx hb dL_law_537 rfl (lv_at hl 1 rfl) ?_
  refine lv_aload_n hx hb dL_law_538 rfl (lv_at hl 0 rfl) ?_
  refine lv_iload hx hb dL_law_539 (lv_at hl 4 rfl) ?_
  refine lv_iconst (v := nI 1) hx hb dL_law_541 (by decide +kernel) ?_
  refine iaddN hx hb dL_law_542 ?_
  refine va_sld hx hb hXs hbl hbA hS (vp_in_nI (n := i + 1) (by omega) (by omega)) dL_law_543 ?_
  refine tS (st' := [.int (xs (i + 1)), .ref fe]) (by rw [nI_clamp (by omega)]) ?_
  refine lv_aload_n hx hb dL_law_544 rfl (lv_at hl 0 rfl) ?_
  refine lv_iload hx hb dL_law_545 (lv_at hl 4 rfl) ?_
  refine lv_iconst (v := nI 2) hx hb dL_law_547 (by decide +kernel) ?_
  refine iaddN hx hb dL_law_548 ?_
  refine va_sld hx hb hXs hbl hbA hS (vp_in_nI (n := i + 2) (by omega) (by omega)) dL_law_549 ?_
  refine tS (st' := [.int (xs (i + 2)), .int (xs (i + 1)), .ref fe]) (by rw [nI_clamp (by omega)]) ?_
  refine lv_aload_n hx hb dL_law_550 rfl (lv_at hl 3 rfl) ?_
  have hPw : va_P G.1 vwCl (WC ++ MC) H := P_pre (P_perm List.perm_append_comm hP)
  have hDw : va_D (AA s) (WC ++ MC) := D_pre (D_perm List.perm_append_comm hDD)
  refine mcall (st1 := [.int (nI 1)]) (vx_runSW (As := [.ref fe, .int (xs (i + 1)), .int (xs (i + 2)), .ref ou]) (rest := []) ⟨hx, hb, hml, hown, hts⟩ (CL_set_e1 l hlt G cJ hX hR (by omega) (xs (i + 1)) (xs (i + 2)) hNo) (vx_cwSW 4 hts gL_law_L_set rfl rfl rfl (by decide +kernel) ⟨Nat.le_of_ble_eq_true rfl, Nat.le_of_ble_eq_true rfl⟩) (PL.preS hE hJ hKJ ⟨P_pre hPw, (D_pre hDw).weaken (fun _ _ _ _ => trivial)⟩) rfl rfl hl.1 rfl (lv_room (Nat.le_of_ble_eq_true rfl)) dL_law_551 ⟨by show cells + 1 ≤ 601024; omega, by show slots + 6 ≤ 7293034; omega⟩) hS (fun q _ h => (h : False).elim) (fun q h => (h : False).elim) rfl (fun H1 locs1 hB9 hz9 hk1 hS => ?_)
  have hP2 := P_kept hP (fun a ha => hk1 a ha (fun h => h))
  generalize H1 = H at hP2 hS ⊢
  replace hJ : JX s H := hJ0.kept (fun a ha => hS.2.1 a ha (Nat.not_le.mpr ha))
  have hPa : va_P G.1 vwCl (([(ou, .inl (cJ, 1, .inr (.inl lo)))] ++ WC) ++ MC) H := by rw [List.append_assoc]; exact hP2
  have hDa : va_D (AA s) (([(ou, .inl (cJ, 1, .inr (.inl lo)))] ++ WC) ++ MC) := by rw [List.append_assoc]; exact hDD
  have hPb : va_P G.1 vwCl (MC ++ ([(ou, .inl (cJ, 1, .inr (.inl lo)))] ++ WC)) H := P_perm List.perm_append_comm hPa
  have hDb : va_D (AA s) (MC ++ ([(ou, .inl (cJ, 1, .inr (.inl lo)))] ++ WC)) := D_perm List.perm_append_comm hDa
  refine lv_istore (lv' := [(5, .int (nI 1)), (0, .ref b), (1, .ref fe), (2, .ref ob), (3, .ref ou), (4, .int (nI i))]) hx hb dL_law_554 hl (by decide) rfl (fun ls hl => ?_)
  refine lv_aload_n hx hb dL_law_556 rfl (lv_at hl 3 rfl) ?_
  refine lv_aload_n hx hb dL_law_557 rfl (lv_at hl 1 rfl) ?_
  refine lv_iload hx hb dL_law_558 (lv_at hl 5 rfl) ?_
  refine lv_iconst (v := nI 1) hx hb dL_law_560 (by decide +kernel) ?_
  refine iaddN hx hb dL_law_561 ?_
  refine va_sld hx hb hXs hbl hbA hS (vp_in_nI (n := i + 1) (by omega) (by omega)) dL_law_562 ?_
  refine tS (st' := [.int (xs (i + 1)), .ref ob]) (by rw [nI_clamp (by omega)]) ?_
  refine lv_aload_n hx hb dL_law_563 rfl (lv_at hl 1 rfl) ?_
  refine lv_iload hx hb dL_law_564 (lv_at hl 5 rfl) ?_
  refine lv_iconst (v := nI 2) hx hb dL_law_566 (by decide +kernel) ?_
  refine iaddN hx hb dL_law_567 ?_
  refine va_sld hx hb hXs hbl hbA hS (vp_in_nI (n := i + 2) (by omega) (by omega)) dL_law_568 ?_
  refine tS (st' := [.int (xs (i + 2)), .int (xs (i + 1)), .ref ob]) (by rw [nI_clamp (by omega)]) ?_
  refine mcall (st1 := [.int (nI 0)]) (va_runV (As := [.int (xs (i + 1)), .int (xs (i + 2))]) (rest := []) ⟨hx, hb, hml, hown, hts⟩ (MX_set_e1 l G hM hR (by omega) (xs (i + 1)) (xs (i + 2)) hNo) (cwV 2 hts gL_law_X6_set rfl rfl rfl (by decide +kernel) ⟨Nat.le_of_ble_eq_true rfl, Nat.le_of_ble_eq_true rfl⟩) (PJ.preV hE hJ (rs_recv hE.1 hM (P_pre hPb)) ⟨P_pre hPb, (D_pre hDb).weaken (fun _ _ _ _ => trivial)⟩) rfl rfl hl.1 rfl (lv_room (Nat.le_of_ble_eq_true rfl)) dL_law_569 ⟨by show _ + 0 ≤ 601024; omega, by show _ + 0 ≤ 7293034; omega⟩) hS (fun q _ h => inW_D (D_pre hDb) q h) (fun q h => inW_D (D_pre hDb) q h) rfl (fun H1 locs1 hB9 hz9 hk1 hS => ?_)
  obtain ⟨MC', hM', hP1, hD1⟩ := hB9
  obtain ⟨hP3, hD3⟩ := jnF (w1 := MC') hPb hDb hk1 hP1 hD1
  generalize H1 = H at hP3 hS ⊢
  refine lv_istore (lv' := [(6, .int (nI 0)), (5, .int (nI 1)), (0, .ref b), (1, .ref fe), (2, .ref ob), (3, .ref ou), (4, .int (nI i))]) hx hb dL_law_572 hl (by decide) rfl (fun ls hl => ?_)
  refine lv_aload_n hx hb dL_law_574 rfl (lv_at hl 4 rfl) ?_
  refine pcall (st1 := [.int (nI 1)]) (va_runV (As := []) (rest := []) ⟨hx, hb, hml, hown, hts⟩ (MX_thrown l G hM') (cwV 0 hts gL_law_X6_thrown rfl rfl rfl (by decide +kernel) ⟨Nat.le_of_ble_eq_true rfl, Nat.le_of_ble_eq_true rfl⟩) (PC.preV hE (rs_recv hE.1 hM' (P_pre hP3)) (P_pre hP3)) rfl rfl hl.1 rfl (lv_room (Nat.le_of_ble_eq_true rfl)) dL_law_575 ⟨by show _ + 0 ≤ 601024; omega, by show _ + 0 ≤ 7293034; omega⟩) rfl ?_
  refine lv_iload hx hb dL_law_578 (lv_at hl 1 rfl) ?_
  refine icmp_eqN (tgt := 585) hx hb (by decide) (by decide) dL_law_580 (by decide) (fun _ => ?_) (fun h => absurd rfl h)
  refine lv_iload hx hb dL_law_585 (lv_at hl 1 rfl) ?_
  refine if_neN (tgt := 602) hx hb (by decide) dL_law_587 (by decide) (fun _ => ?_) (fun h => absurd h (by decide))
  refine lv_goto (tgt := 1491) hx hb dL_law_602 (by decide) ?_
  refine W.widen (k := cells + 1) (n := slots + 6) (by omega) (by omega) ?_
  have hP4 : va_P G.1 vwCl ([(ou, .inl (cJ, 1, .inr (.inl lo)))] ++ (WC ++ MC')) H := P_perm ((List.perm_append_comm).trans (by rw [List.append_assoc])) hP3
  have hD4 : va_D (AA s) ([(ou, .inl (cJ, 1, .inr (.inl lo)))] ++ (WC ++ MC')) := D_perm ((List.perm_append_comm).trans (by rw [List.append_assoc])) hD3
  exact kk _ _ _ _ _ _ _ _ _ _ _ _ _ _ _ ⟨hX, PR_mono (by omega) hR, hM', hP4, hD4, hS, lv_sub hl [2, 3, 4, 5, 6] rfl⟩
set_option maxHeartbeats 4000000 in
set_option maxRecDepth 100000 in
theorem seg_set_e2 {p : Program} {l : Launch} {e : Env} {s : State} {m : MethodId} {below : List Frame} {meth : Method} {c : Code} {b L : Nat} {xs : Nat → Int32} {G : eG} {cJ : ClassId} {Q : State → Prop} (hlt : l.stackTraces = false) (hL : LX p s m c b L xs G cJ) {fe ob ou B i : Nat} {f sf : Nat → Int32} {ff : Nat → Nat → Int32} {old sz len : Nat} {tx : Nat → Int32} {hsn thr : Int32} {lo : Nat → Int64} {WC MC : va_W} {H : Heap} {locs : List Loc} {ls : Array Slot} {cells slots : Nat} (hD : LD s G cJ b fe ob ou B f sf ff old sz len tx hsn thr lo WC MC H locs ls i) (hi : i + 4 ≤ L) (hLL : L ≤ 2048) (hB : B + 10000 < 700000000) (hc1 : cells + 1 ≤ 601024) (hs1 : slots + 6 ≤ 7293034) (s0 : Nat) (hs3 : s0 < 3) (hNo : ¬ (nI (stLo s0) ≤ (xs (i + 2)) ∧ (xs (i + 2)) ≤ nI (stHi s0))) (e1 : xs (i + 1) = nI s0) (kk : ∀ (f sf : Nat → Int32) (ff : Nat → Nat → Int32) (old sz len : Nat) (tx : Nat → Int32) (hsn thr : Int32) (lo : Nat → Int64) (WC MC : va_W) (H : Heap) (locs : List Loc) (ls : Array Slot), LD s G cJ b fe ob ou (B + 10000) f sf ff old sz len tx hsn thr lo WC MC H locs ls i → W p l e room_1 s m #[Value.ref b] below meth c H locs (cells + 1) (slots + 6) Q (F0 m 1491 ls [])) : W p l e room_1 s m #[Value.ref b] below meth c H locs cells slots Q (F0 m 537 ls []) := by
  obtain ⟨hx, hb, hml, hown, hts, hE, hJ0, hKJ, hXs, hbl⟩ := hL
  obtain ⟨hX, hR, hM, hP, hDD, hS, hl⟩ := hD
  have hbA : ¬ AA s b := Nat.not_le.mpr hbl
  have hJ : JX s H := hJ0.kept (fun a ha => hS.2.1 a ha (Nat.not_le.mpr ha))
  refine lv_aload_n hx hb dL_law_537 rfl (lv_at hl 1 rfl) ?_
  refine lv_aload_n hx hb dL_law_538 rfl (lv_at hl 0 rfl) ?_
  refine lv_iload hx hb dL_law_539 (lv_at hl 4 rfl) ?_
  refine lv_iconst (v := nI 1) hx hb dL_law_541 (by decide +kernel) ?_
  refine iaddN hx hb dL_law_542 ?_
  refine va_sld hx hb hXs hbl hbA hS (vp_in_nI (n := i + 1) (by omega) (by omega)) dL_law_543 ?_
  refine tS (st' := [.int (nI s0), .ref fe]) (by rw [nI_clamp (by omega), e1]) ?_
  refine lv_aload_n hx hb dL_law_544 rfl (lv_at hl 0 rfl) ?_
  refine lv_iload hx hb dL_law_545 (lv_at hl 4 rfl) ?_
  refine lv_iconst (v := nI 2) hx hb dL_law_547 (by decide +kernel) ?_
  refine iaddN hx hb dL_law_548 ?_
  refine va_sld hx hb hXs hbl hbA hS (vp_in_nI (n := i + 2) (by omega) (by omega)) dL_law_549 ?_
  refine tS (st' := [.int (xs (i + 2)), .int (nI s0), .ref fe]) (by rw [nI_clamp (by omega)]) ?_
  refine lv_aload_n hx hb dL_law_550 rfl (lv_at hl 3 rfl) ?_
  have hPw : va_P G.1 vwCl (WC ++ MC) H := P_pre (P_perm List.perm_append_comm hP)
  have hDw : va_D (AA s) (WC ++ MC) := D_pre (D_perm List.perm_append_comm hDD)
  refine mcall (st1 := [.int (nI 2)]) (vx_runSW (As := [.ref fe, .int (nI s0), .int (xs (i + 2)), .ref ou]) (rest := []) ⟨hx, hb, hml, hown, hts⟩ (CL_set_e2 l hlt G cJ hX hR (by omega) s0 (xs (i + 2)) hs3 hNo) (vx_cwSW 4 hts gL_law_L_set rfl rfl rfl (by decide +kernel) ⟨Nat.le_of_ble_eq_true rfl, Nat.le_of_ble_eq_true rfl⟩) (PL.preS hE hJ hKJ ⟨P_pre hPw, (D_pre hDw).weaken (fun _ _ _ _ => trivial)⟩) rfl rfl hl.1 rfl (lv_room (Nat.le_of_ble_eq_true rfl)) dL_law_551 ⟨by show cells + 1 ≤ 601024; omega, by show slots + 6 ≤ 7293034; omega⟩) hS (fun q _ h => (h : False).elim) (fun q h => (h : False).elim) rfl (fun H1 locs1 hB9 hz9 hk1 hS => ?_)
  have hP2 := P_kept hP (fun a ha => hk1 a ha (fun h => h))
  generalize H1 = H at hP2 hS ⊢
  replace hJ : JX s H := hJ0.kept (fun a ha => hS.2.1 a ha (Nat.not_le.mpr ha))
  have hPa : va_P G.1 vwCl (([(ou, .inl (cJ, 1, .inr (.inl lo)))] ++ WC) ++ MC) H := by rw [List.append_assoc]; exact hP2
  have hDa : va_D (AA s) (([(ou, .inl (cJ, 1, .inr (.inl lo)))] ++ WC) ++ MC) := by rw [List.append_assoc]; exact hDD
  have hPb : va_P G.1 vwCl (MC ++ ([(ou, .inl (cJ, 1, .inr (.inl lo)))] ++ WC)) H := P_perm List.perm_append_comm hPa
  have hDb : va_D (AA s) (MC ++ ([(ou, .inl (cJ, 1, .inr (.inl lo)))] ++ WC)) := D_perm List.perm_append_comm hDa
  refine lv_istore (lv' := [(5, .int (nI 2)), (0, .ref b), (1, .ref fe), (2, .ref ob), (3, .ref ou), (4, .int (nI i))]) hx hb dL_law_554 hl (by decide) rfl (fun ls hl => ?_)
  refine lv_aload_n hx hb dL_law_556 rfl (lv_at hl 3 rfl) ?_
  refine lv_aload_n hx hb dL_law_557 rfl (lv_at hl 1 rfl) ?_
  refine lv_iload hx hb dL_law_558 (lv_at hl 5 rfl) ?_
  refine lv_iconst (v := nI 1) hx hb dL_law_560 (by decide +kernel) ?_
  refine iaddN hx hb dL_law_561 ?_
  refine va_sld hx hb hXs hbl hbA hS (vp_in_nI (n := i + 1) (by omega) (by omega)) dL_law_562 ?_
  refine tS (st' := [.int (nI s0), .ref ob]) (by rw [nI_clamp (by omega), e1]) ?_
  refine lv_aload_n hx hb dL_law_563 rfl (lv_at hl 1 rfl) ?_
  refine lv_iload hx hb dL_law_564 (lv_at hl 5 rfl) ?_
  refine lv_iconst (v := nI 2) hx hb dL_law_566 (by decide +kernel) ?_
  refine iaddN hx hb dL_law_567 ?_
  refine va_sld hx hb hXs hbl hbA hS (vp_in_nI (n := i + 2) (by omega) (by omega)) dL_law_568 ?_
  refine tS (st' := [.int (xs (i + 2)), .int (nI s0), .ref ob]) (by rw [nI_clamp (by omega)]) ?_
  refine mcall (st1 := [.int (nI 0)]) (va_runV (As := [.int (nI s0), .int (xs (i + 2))]) (rest := []) ⟨hx, hb, hml, hown, hts⟩ (MX_set_e2 l G hM hR (by omega) s0 (xs (i + 2)) hs3 hNo) (cwV 2 hts gL_law_X6_set rfl rfl rfl (by decide +kernel) ⟨Nat.le_of_ble_eq_true rfl, Nat.le_of_ble_eq_true rfl⟩) (PJ.preV hE hJ (rs_recv hE.1 hM (P_pre hPb)) ⟨P_pre hPb, (D_pre hDb).weaken (fun _ _ _ _ => trivial)⟩) rfl rfl hl.1 rfl (lv_room (Nat.le_of_ble_eq_true rfl)) dL_law_569 ⟨by show _ + 0 ≤ 601024; omega, by show _ + 0 ≤ 7293034; omega⟩) hS (fun q _ h => inW_D (D_pre hDb) q h) (fun q h => inW_D (D_pre hDb) q h) rfl (fun H1 locs1 hB9 hz9 hk1 hS => ?_)
  obtain ⟨MC', hM', hP1, hD1⟩ := hB9
  obtain ⟨hP3, hD3⟩ := jnF (w1 := MC') hPb hDb hk1 hP1 hD1
  generalize H1 = H at hP3 hS ⊢
  refine lv_istore (lv' := [(6, .int (nI 0)), (5, .int (nI 2)), (0, .ref b), (1, .ref fe), (2, .ref ob), (3, .ref ou), (4, .int (nI i))]) hx hb dL_law_572 hl (by decide) rfl (fun ls hl => ?_)
  refine lv_aload_n hx hb dL_law_574 rfl (lv_at hl 4 rfl) ?_
  refine pcall (st1 := [.int (nI 2)]) (va_runV (As := []) (rest := []) ⟨hx, hb, hml, hown, hts⟩ (MX_thrown l G hM') (cwV 0 hts gL_law_X6_thrown rfl rfl rfl (by decide +kernel) ⟨Nat.le_of_ble_eq_true rfl, Nat.le_of_ble_eq_true rfl⟩) (PC.preV hE (rs_recv hE.1 hM' (P_pre hP3)) (P_pre hP3)) rfl rfl hl.1 rfl (lv_room (Nat.le_of_ble_eq_true rfl)) dL_law_575 ⟨by show _ + 0 ≤ 601024; omega, by show _ + 0 ≤ 7293034; omega⟩) rfl ?_
  refine lv_iload hx hb dL_law_578 (lv_at hl 1 rfl) ?_
  refine icmp_eqN (tgt := 585) hx hb (by decide) (by decide) dL_law_580 (by decide) (fun _ => ?_) (fun h => absurd rfl h)
  refine lv_iload hx hb dL_law_585 (lv_at hl 1 rfl) ?_
  refine if_neN (tgt := 602) hx hb (by decide) dL_law_587 (by decide) (fun _ => ?_) (fun h => absurd h (by decide))
  refine lv_goto (tgt := 1491) hx hb dL_law_602 (by decide) ?_
  refine W.widen (k := cells + 1) (n := slots + 6) (by omega) (by omega) ?_
  have hP4 : va_P G.1 vwCl ([(ou, .inl (cJ, 1, .inr (.inl lo)))] ++ (WC ++ MC')) H := P_perm ((List.perm_append_comm).trans (by rw [List.append_assoc])) hP3
  have hD4 : va_D (AA s) ([(ou, .inl (cJ, 1, .inr (.inl lo)))] ++ (WC ++ MC')) := D_perm ((List.perm_append_comm).trans (by rw [List.append_assoc])) hD3
  exact kk _ _ _ _ _ _ _ _ _ _ _ _ _ _ _ ⟨hX, PR_mono (by omega) hR, hM', hP4, hD4, hS, lv_sub hl [2, 3, 4, 5, 6] rfl⟩
set_option maxHeartbeats 4000000 in
set_option maxRecDepth 100000 in
theorem seg_append_ok {p : Program} {l : Launch} {e : Env} {s : State} {m : MethodId} {below : List Frame} {meth : Method} {c : Code} {b L : Nat} {xs : Nat → Int32} {G : eG} {cJ : ClassId} {Q : State → Prop} (hlt : l.stackTraces = false) (hL : LX p s m c b L xs G cJ) {fe ob ou B i : Nat} {f sf : Nat → Int32} {ff : Nat → Nat → Int32} {old sz len : Nat} {tx : Nat → Int32} {hsn thr : Int32} {lo : Nat → Int64} {WC MC : va_W} {H : Heap} {locs : List Loc} {ls : Array Slot} {cells slots : Nat} (hD : LD s G cJ b fe ob ou B f sf ff old sz len tx hsn thr lo WC MC H locs ls i) (hi : i + 4 ≤ L) (hLL : L ≤ 2048) (hB : B + 10000 < 700000000) (hc1 : cells + 1 ≤ 601024) (hs1 : slots + 6 ≤ 7293034) (hln : len < 60) (q : Nat) (h1 : 33 ≤ q) (h2 : q ≤ 126) (e1 : xs (i + 1) = nI q) (kk : ∀ (f sf : Nat → Int32) (ff : Nat → Nat → Int32) (old sz len : Nat) (tx : Nat → Int32) (hsn thr : Int32) (lo : Nat → Int64) (WC MC : va_W) (H : Heap) (locs : List Loc) (ls : Array Slot), LD s G cJ b fe ob ou (B + 10000) f sf ff old sz len tx hsn thr lo WC MC H locs ls i → W p l e room_1 s m #[Value.ref b] below meth c H locs (cells + 1) (slots + 6) Q (F0 m 1491 ls [])) : W p l e room_1 s m #[Value.ref b] below meth c H locs cells slots Q (F0 m 605 ls []) := by
  obtain ⟨hx, hb, hml, hown, hts, hE, hJ0, hKJ, hXs, hbl⟩ := hL
  obtain ⟨hX, hR, hM, hP, hDD, hS, hl⟩ := hD
  have hbA : ¬ AA s b := Nat.not_le.mpr hbl
  have hJ : JX s H := hJ0.kept (fun a ha => hS.2.1 a ha (Nat.not_le.mpr ha))
  refine lv_aload_n hx hb dL_law_605 rfl (lv_at hl 1 rfl) ?_
  refine lv_aload_n hx hb dL_law_606 rfl (lv_at hl 0 rfl) ?_
  refine lv_iload hx hb dL_law_607 (lv_at hl 4 rfl) ?_
  refine lv_iconst (v := nI 1) hx hb dL_law_609 (by decide +kernel) ?_
  refine iaddN hx hb dL_law_610 ?_
  refine va_sld hx hb hXs hbl hbA hS (vp_in_nI (n := i + 1) (by omega) (by omega)) dL_law_611 ?_
  refine tS (st' := [.int (nI q), .ref fe]) (by rw [nI_clamp (by omega), e1]) ?_
  refine lv_aload_n hx hb dL_law_612 rfl (lv_at hl 3 rfl) ?_
  have hPa : va_P G.1 vwCl (([(ou, .inl (cJ, 1, .inr (.inl lo)))] ++ WC) ++ MC) H := by rw [List.append_assoc]; exact hP
  have hDa : va_D (AA s) (([(ou, .inl (cJ, 1, .inr (.inl lo)))] ++ WC) ++ MC) := by rw [List.append_assoc]; exact hDD
  refine mcall (st1 := [.int (nI 0)]) (vx_runSW (As := [.ref fe, .int (nI q), .ref ou]) (rest := []) ⟨hx, hb, hml, hown, hts⟩ (CL_append_ok l G cJ hX hR (by omega) hln q h1 h2) (vx_cwSW 3 hts gL_law_L_append rfl rfl rfl (by decide +kernel) ⟨Nat.le_of_ble_eq_true rfl, Nat.le_of_ble_eq_true rfl⟩) (PL.preS hE hJ hKJ ⟨P_pre hPa, (D_pre hDa).weaken (fun _ _ _ _ => trivial)⟩) rfl rfl hl.1 rfl (lv_room (Nat.le_of_ble_eq_true rfl)) dL_law_613 ⟨by show cells + 0 ≤ 601024; omega, by show slots + 0 ≤ 7293034; omega⟩) hS (fun q _ h => inW_D (D_pre hDa) q h) (fun q h => inW_D (D_pre hDa) q h) rfl (fun H1 locs1 hB9 hz9 hk1 hS => ?_)
  obtain ⟨WC', hX', hP1, hD1⟩ := hB9
  obtain ⟨hP2, hD2⟩ := jnF (w1 := [(ou, .inl (cJ, 1, .inr (.inl (vp_updL lo 0 (((nI (len + 1))).toInt64)))))] ++ WC') hPa hDa hk1 hP1 hD1
  generalize H1 = H at hP2 hS ⊢
  replace hJ : JX s H := hJ0.kept (fun a ha => hS.2.1 a ha (Nat.not_le.mpr ha))
  have hPb : va_P G.1 vwCl (MC ++ ([(ou, .inl (cJ, 1, .inr (.inl (vp_updL lo 0 (((nI (len + 1))).toInt64)))))] ++ WC')) H := P_perm List.perm_append_comm hP2
  have hDb : va_D (AA s) (MC ++ ([(ou, .inl (cJ, 1, .inr (.inl (vp_updL lo 0 (((nI (len + 1))).toInt64)))))] ++ WC')) := D_perm List.perm_append_comm hD2
  refine lv_istore (lv' := [(5, .int (nI 0)), (0, .ref b), (1, .ref fe), (2, .ref ob), (3, .ref ou), (4, .int (nI i))]) hx hb dL_law_616 hl (by decide) rfl (fun ls hl => ?_)
  refine lv_aload_n hx hb dL_law_618 rfl (lv_at hl 3 rfl) ?_
  refine lv_aload_n hx hb dL_law_619 rfl (lv_at hl 1 rfl) ?_
  refine lv_iload hx hb dL_law_620 (lv_at hl 5 rfl) ?_
  refine lv_iconst (v := nI 1) hx hb dL_law_622 (by decide +kernel) ?_
  refine iaddN hx hb dL_law_623 ?_
  refine va_sld hx hb hXs hbl hbA hS (vp_in_nI (n := i + 1) (by omega) (by omega)) dL_law_624 ?_
  refine tS (st' := [.int (nI q), .ref ob]) (by rw [nI_clamp (by omega), e1]) ?_
  refine mcall (st1 := [.int (nI (len + 1))]) (va_runV (As := [.int (nI q)]) (rest := []) ⟨hx, hb, hml, hown, hts⟩ (MX_append_ok l G hM hR (by omega) q h1 h2 hln) (cwV 1 hts gL_law_X6_append rfl rfl rfl (by decide +kernel) ⟨Nat.le_of_ble_eq_true rfl, Nat.le_of_ble_eq_true rfl⟩) (PJ.preV hE hJ (rs_recv hE.1 hM (P_pre hPb)) ⟨P_pre hPb, (D_pre hDb).weaken (fun _ _ _ _ => trivial)⟩) rfl rfl hl.1 rfl (lv_room (Nat.le_of_ble_eq_true rfl)) dL_law_625 ⟨by show _ + 0 ≤ 601024; omega, by show _ + 0 ≤ 7293034; omega⟩) hS (fun q _ h => inW_D (D_pre hDb) q h) (fun q h => inW_D (D_pre hDb) q h) rfl (fun H1 locs1 hB9 hz9 hk1 hS => ?_)
  obtain ⟨MC', hM', hP1, hD1⟩ := hB9
  obtain ⟨hP3, hD3⟩ := jnF (w1 := MC') hPb hDb hk1 hP1 hD1
  generalize H1 = H at hP3 hS ⊢
  refine lv_istore (lv' := [(6, .int (nI (len + 1))), (5, .int (nI 0)), (0, .ref b), (1, .ref fe), (2, .ref ob), (3, .ref ou), (4, .int (nI i))]) hx hb dL_law_628 hl (by decide) rfl (fun ls hl => ?_)
  refine lv_aload_n hx hb dL_law_630 rfl (lv_at hl 4 rfl) ?_
  refine pcall (st1 := [.int (nI 0)]) (va_runV (As := []) (rest := []) ⟨hx, hb, hml, hown, hts⟩ (MX_thrown l G hM') (cwV 0 hts gL_law_X6_thrown rfl rfl rfl (by decide +kernel) ⟨Nat.le_of_ble_eq_true rfl, Nat.le_of_ble_eq_true rfl⟩) (PC.preV hE (rs_recv hE.1 hM' (P_pre hP3)) (P_pre hP3)) rfl rfl hl.1 rfl (lv_room (Nat.le_of_ble_eq_true rfl)) dL_law_631 ⟨by show _ + 0 ≤ 601024; omega, by show _ + 0 ≤ 7293034; omega⟩) rfl ?_
  refine lv_iload hx hb dL_law_634 (lv_at hl 1 rfl) ?_
  refine icmp_eqN (tgt := 641) hx hb (by decide) (by decide) dL_law_636 (by decide) (fun _ => ?_) (fun h => absurd rfl h)
  refine lv_iload hx hb dL_law_641 (lv_at hl 1 rfl) ?_
  refine if_neN (tgt := 658) hx hb (by decide) dL_law_643 (by decide) (fun h => absurd rfl h) (fun _ => ?_)
  refine lv_aload_n hx hb dL_law_646 rfl (lv_at hl 5 rfl) ?_
  refine lv_iconst (v := nI 0) hx hb dL_law_647 (by decide +kernel) ?_
  refine va_lald hx hb hKJ (P_pre (P_perm ((List.perm_append_comm).trans (by rw [List.append_assoc])) hP3)) 0 0 rfl rfl (vp_in_nI (n := 0) (N := 1) (by decide) (by decide)) dL_law_648 ?_
  refine tS (st' := [.long (((nI (len + 1))).toInt64)]) (by rw [nI_clamp (by decide), pk_uLs]) ?_
  refine lv_iload hx hb dL_law_649 (lv_at hl 0 rfl) ?_
  refine lv_i2l (v := ((nI (len + 1))).toInt64) hx hb dL_law_651 rfl ?_
  refine lv_lcmpE hx hb dL_law_652 ?_
  refine if_eqN (tgt := 658) hx hb (by decide) dL_law_653 (by decide) (fun _ => ?_) (fun h => absurd rfl h)
  refine lv_goto (tgt := 1491) hx hb dL_law_658 (by decide) ?_
  refine W.widen (k := cells + 1) (n := slots + 6) (by omega) (by omega) ?_
  have hP4 : va_P G.1 vwCl ([(ou, .inl (cJ, 1, .inr (.inl (vp_updL lo 0 (((nI (len + 1))).toInt64)))))] ++ (WC' ++ MC')) H := P_perm ((List.perm_append_comm).trans (by rw [List.append_assoc])) hP3
  have hD4 : va_D (AA s) ([(ou, .inl (cJ, 1, .inr (.inl (vp_updL lo 0 (((nI (len + 1))).toInt64)))))] ++ (WC' ++ MC')) := D_perm ((List.perm_append_comm).trans (by rw [List.append_assoc])) hD3
  exact kk _ _ _ _ _ _ _ _ _ _ _ _ _ _ _ ⟨hX', PR_mono (by omega) (PR_app hR hln h2), hM', hP4, hD4, hS, lv_sub hl [2, 3, 4, 5, 6] rfl⟩

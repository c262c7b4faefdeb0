set_option maxHeartbeats 8000000 in
set_option maxRecDepth 100000 in
theorem cr_s1 {p : Program} {l : Launch} {e : Env} {s : State} {m : MethodId} {below : List Frame} {meth : Method} {c : Code} {G : eG} {lo : Nat} (hlt : l.stackTraces = false) (hL : LC cL_crossings 1 wsL_crossings p s m meth c ([] : List Value).toArray G lo) {q0 : Nat} {ff1 : Nat → Nat → Int32} {WC : va_W} {H : Heap} {locs : List Loc} {ls : Array Slot} (hX : XS G q0 (fnL cr_L1) (fnL L0) ff1 0 1 0 (fnL T0) (nI 0) WC) (hR : PR 10000 (fnL cr_L1) (fnL L0) ff1 0 1 0 (fnL T0) (nI 0)) (hP : va_P G.1 vwCl (WC ++ []) H) (hD : va_D (AA s) (WC ++ [])) (hS : va_S (AA s) s.heap H locs) (hl : lv_has ls 1 [(0, .ref q0)]) : W p l e ({ frames := 10, cells := 258, slots := 1912, locals := 193 }) s m ([] : List Value).toArray below meth c H locs 209 1618 (MQ below (MV (some (.int (nI 1))) (fun _ => True) (AA s)) ([] : List Value).toArray s 258 1912 (AA s)) (F0 m 221 ls []) := by
  have hL9 := hL
  obtain ⟨hx, hb, hml, hown, hts, hE, hJ0, hF0, hr, hlocks⟩ := hL
  have hAl : ∀ q, AA s q → lo ≤ q := fun q h => Nat.le_trans hJ0.1 h
  have hA : ∀ q : Nat, s.heap.size ≤ q → AA s q := fun _ h => h
  have hJ : JB lo s _ := hJ0.S hAl hS
  refine lv_aload_n hx hb dL_crossings_221 rfl (lv_at hl 0 rfl) ?_
  refine lv_iconst (v := nI 3) hx hb dL_crossings_222 (by decide +kernel) ?_
  refine lv_iconst (v := nI 0) hx hb dL_crossings_223 (by decide +kernel) ?_
  refine cx0 (st1 := [.int (fOf (fnL cr_L1) 3 0)]) (va_runV (As := [.int (nI 3), .int (nI 0)]) (rest := []) ⟨hx, hb, hml, hown, hts⟩ (CX_section_ok l G hX hR (by decide) 3 0 (by decide +kernel) (by decide +kernel)) (cwV 2 hts gL_crossings_X5_section rfl rfl rfl (by decide +kernel) ⟨Nat.le_of_ble_eq_true rfl, Nat.le_of_ble_eq_true rfl⟩) (PJ.preV hE hJ.jx (xs_recv hE.1 hX (P_pre hP)) ⟨P_pre hP, D_tr (D_pre hD)⟩) rfl rfl hl.1 rfl (lv_room (Nat.le_of_ble_eq_true rfl)) dL_crossings_224 ⟨Nat.le_of_ble_eq_true rfl, Nat.le_of_ble_eq_true rfl⟩) hP hD hS hJ0 hAl rfl (fun WC H locs hX hP hD hS hJ => ?_)
  refine tI (y := nI 0) (by decide +kernel) ?_
  refine lv_if_ne (tgt := 413) hx hb dL_crossings_227 (by decide) (fun h => absurd h (by decide +kernel)) (fun _ => ?_)
  refine lv_aload_n hx hb dL_crossings_230 rfl (lv_at hl 0 rfl) ?_
  refine lv_iconst (v := nI 4) hx hb dL_crossings_231 (by decide +kernel) ?_
  refine lv_iconst (v := nI 0) hx hb dL_crossings_232 (by decide +kernel) ?_
  refine cx0 (st1 := [.int (fOf (fnL cr_L1) 4 0)]) (va_runV (As := [.int (nI 4), .int (nI 0)]) (rest := []) ⟨hx, hb, hml, hown, hts⟩ (CX_section_ok l G hX hR (by decide) 4 0 (by decide +kernel) (by decide +kernel)) (cwV 2 hts gL_crossings_X5_section rfl rfl rfl (by decide +kernel) ⟨Nat.le_of_ble_eq_true rfl, Nat.le_of_ble_eq_true rfl⟩) (PJ.preV hE hJ.jx (xs_recv hE.1 hX (P_pre hP)) ⟨P_pre hP, D_tr (D_pre hD)⟩) rfl rfl hl.1 rfl (lv_room (Nat.le_of_ble_eq_true rfl)) dL_crossings_233 ⟨Nat.le_of_ble_eq_true rfl, Nat.le_of_ble_eq_true rfl⟩) hP hD hS hJ0 hAl rfl (fun WC H locs hX hP hD hS hJ => ?_)
  refine tI (y := nI 1) (by decide +kernel) ?_
  refine lv_iconst (v := nI 1) hx hb dL_crossings_236 (by decide +kernel) ?_
  refine lv_icmp_ne (tgt := 413) hx hb dL_crossings_237 (by decide) (fun h => absurd h (by decide +kernel)) (fun _ => ?_)
  refine lv_aload_n hx hb dL_crossings_240 rfl (lv_at hl 0 rfl) ?_
  refine lv_bipush (v := nI 8) hx hb dL_crossings_241 (by decide +kernel) ?_
  refine lv_iconst (v := nI 0) hx hb dL_crossings_243 (by decide +kernel) ?_
  refine cx0 (st1 := [.int (fOf (fnL cr_L1) 8 0)]) (va_runV (As := [.int (nI 8), .int (nI 0)]) (rest := []) ⟨hx, hb, hml, hown, hts⟩ (CX_section_ok l G hX hR (by decide) 8 0 (by decide +kernel) (by decide +kernel)) (cwV 2 hts gL_crossings_X5_section rfl rfl rfl (by decide +kernel) ⟨Nat.le_of_ble_eq_true rfl, Nat.le_of_ble_eq_true rfl⟩) (PJ.preV hE hJ.jx (xs_recv hE.1 hX (P_pre hP)) ⟨P_pre hP, D_tr (D_pre hD)⟩) rfl rfl hl.1 rfl (lv_room (Nat.le_of_ble_eq_true rfl)) dL_crossings_244 ⟨Nat.le_of_ble_eq_true rfl, Nat.le_of_ble_eq_true rfl⟩) hP hD hS hJ0 hAl rfl (fun WC H locs hX hP hD hS hJ => ?_)
  refine tI (y := nI 1) (by decide +kernel) ?_
  refine lv_iconst (v := nI 1) hx hb dL_crossings_247 (by decide +kernel) ?_
  refine lv_icmp_ne (tgt := 413) hx hb dL_crossings_248 (by decide) (fun h => absurd h (by decide +kernel)) (fun _ => ?_)
  refine lv_aload_n hx hb dL_crossings_251 rfl (lv_at hl 0 rfl) ?_
  refine lv_bipush (v := nI 9) hx hb dL_crossings_252 (by decide +kernel) ?_
  refine lv_iconst (v := nI 0) hx hb dL_crossings_254 (by decide +kernel) ?_
  refine cx0 (st1 := [.int (fOf (fnL cr_L1) 9 0)]) (va_runV (As := [.int (nI 9), .int (nI 0)]) (rest := []) ⟨hx, hb, hml, hown, hts⟩ (CX_section_ok l G hX hR (by decide) 9 0 (by decide +kernel) (by decide +kernel)) (cwV 2 hts gL_crossings_X5_section rfl rfl rfl (by decide +kernel) ⟨Nat.le_of_ble_eq_true rfl, Nat.le_of_ble_eq_true rfl⟩) (PJ.preV hE hJ.jx (xs_recv hE.1 hX (P_pre hP)) ⟨P_pre hP, D_tr (D_pre hD)⟩) rfl rfl hl.1 rfl (lv_room (Nat.le_of_ble_eq_true rfl)) dL_crossings_255 ⟨Nat.le_of_ble_eq_true rfl, Nat.le_of_ble_eq_true rfl⟩) hP hD hS hJ0 hAl rfl (fun WC H locs hX hP hD hS hJ => ?_)
  refine tI (y := nI 2) (by decide +kernel) ?_
  refine lv_iconst (v := nI 2) hx hb dL_crossings_258 (by decide +kernel) ?_
  refine lv_icmp_ne (tgt := 413) hx hb dL_crossings_259 (by decide) (fun h => absurd h (by decide +kernel)) (fun _ => ?_)
  refine lv_aload_n hx hb dL_crossings_262 rfl (lv_at hl 0 rfl) ?_
  refine lv_bipush (v := nI 10) hx hb dL_crossings_263 (by decide +kernel) ?_
  refine lv_iconst (v := nI 0) hx hb dL_crossings_265 (by decide +kernel) ?_
  refine cx0 (st1 := [.int (fOf (fnL cr_L1) 10 0)]) (va_runV (As := [.int (nI 10), .int (nI 0)]) (rest := []) ⟨hx, hb, hml, hown, hts⟩ (CX_section_ok l G hX hR (by decide) 10 0 (by decide +kernel) (by decide +kernel)) (cwV 2 hts gL_crossings_X5_section rfl rfl rfl (by decide +kernel) ⟨Nat.le_of_ble_eq_true rfl, Nat.le_of_ble_eq_true rfl⟩) (PJ.preV hE hJ.jx (xs_recv hE.1 hX (P_pre hP)) ⟨P_pre hP, D_tr (D_pre hD)⟩) rfl rfl hl.1 rfl (lv_room (Nat.le_of_ble_eq_true rfl)) dL_crossings_266 ⟨Nat.le_of_ble_eq_true rfl, Nat.le_of_ble_eq_true rfl⟩) hP hD hS hJ0 hAl rfl (fun WC H locs hX hP hD hS hJ => ?_)
  refine tI (y := nI 2) (by decide +kernel) ?_
  refine lv_iconst (v := nI 2) hx hb dL_crossings_269 (by decide +kernel) ?_
  refine lv_icmp_ne (tgt := 413) hx hb dL_crossings_270 (by decide) (fun h => absurd h (by decide +kernel)) (fun _ => ?_)
  refine lv_aload_n hx hb dL_crossings_273 rfl (lv_at hl 0 rfl) ?_
  refine lv_bipush (v := nI 15) hx hb dL_crossings_274 (by decide +kernel) ?_
  refine lv_iconst (v := nI 0) hx hb dL_crossings_276 (by decide +kernel) ?_
  refine cx0 (st1 := [.int (fOf (fnL cr_L1) 15 0)]) (va_runV (As := [.int (nI 15), .int (nI 0)]) (rest := []) ⟨hx, hb, hml, hown, hts⟩ (CX_section_ok l G hX hR (by decide) 15 0 (by decide +kernel) (by decide +kernel)) (cwV 2 hts gL_crossings_X5_section rfl rfl rfl (by decide +kernel) ⟨Nat.le_of_ble_eq_true rfl, Nat.le_of_ble_eq_true rfl⟩) (PJ.preV hE hJ.jx (xs_recv hE.1 hX (P_pre hP)) ⟨P_pre hP, D_tr (D_pre hD)⟩) rfl rfl hl.1 rfl (lv_room (Nat.le_of_ble_eq_true rfl)) dL_crossings_277 ⟨Nat.le_of_ble_eq_true rfl, Nat.le_of_ble_eq_true rfl⟩) hP hD hS hJ0 hAl rfl (fun WC H locs hX hP hD hS hJ => ?_)
  refine tI (y := nI 1) (by decide +kernel) ?_
  refine lv_iconst (v := nI 1) hx hb dL_crossings_280 (by decide +kernel) ?_
  refine lv_icmp_ne (tgt := 413) hx hb dL_crossings_281 (by decide) (fun h => absurd h (by decide +kernel)) (fun _ => ?_)
  refine lv_aload_n hx hb dL_crossings_284 rfl (lv_at hl 0 rfl) ?_
  refine lv_bipush (v := nI 16) hx hb dL_crossings_285 (by decide +kernel) ?_
  refine lv_iconst (v := nI 0) hx hb dL_crossings_287 (by decide +kernel) ?_
  refine cx0 (st1 := [.int (fOf (fnL cr_L1) 16 0)]) (va_runV (As := [.int (nI 16), .int (nI 0)]) (rest := []) ⟨hx, hb, hml, hown, hts⟩ (CX_section_ok l G hX hR (by decide) 16 0 (by decide +kernel) (by decide +kernel)) (cwV 2 hts gL_crossings_X5_section rfl rfl rfl (by decide +kernel) ⟨Nat.le_of_ble_eq_true rfl, Nat.le_of_ble_eq_true rfl⟩) (PJ.preV hE hJ.jx (xs_recv hE.1 hX (P_pre hP)) ⟨P_pre hP, D_tr (D_pre hD)⟩) rfl rfl hl.1 rfl (lv_room (Nat.le_of_ble_eq_true rfl)) dL_crossings_288 ⟨Nat.le_of_ble_eq_true rfl, Nat.le_of_ble_eq_true rfl⟩) hP hD hS hJ0 hAl rfl (fun WC H locs hX hP hD hS hJ => ?_)
  refine tI (y := nI 0) (by decide +kernel) ?_
  refine lv_if_ne (tgt := 413) hx hb dL_crossings_291 (by decide) (fun h => absurd h (by decide +kernel)) (fun _ => ?_)
  refine lv_aload_n hx hb dL_crossings_294 rfl (lv_at hl 0 rfl) ?_
  refine cx0 (st1 := [.float (fWs (fnL cr_L1))]) (va_runV (As := []) (rest := []) ⟨hx, hb, hml, hown, hts⟩ (CX_wornShare l G hX hR (by decide) ) (cwV 0 hts gL_crossings_X5_wornShare rfl rfl rfl (by decide +kernel) ⟨Nat.le_of_ble_eq_true rfl, Nat.le_of_ble_eq_true rfl⟩) (PJ.preV hE hJ.jx (xs_recv hE.1 hX (P_pre hP)) ⟨P_pre hP, D_tr (D_pre hD)⟩) rfl rfl hl.1 rfl (lv_room (Nat.le_of_ble_eq_true rfl)) dL_crossings_295 ⟨Nat.le_of_ble_eq_true rfl, Nat.le_of_ble_eq_true rfl⟩) hP hD hS hJ0 hAl rfl (fun WC H locs hX hP hD hS hJ => ?_)
  refine lv_ldcf (v := 976715828) hx hb hown (hts (.constantFloat RL 127 (976715828)) (by decide +kernel)) dL_crossings_298 ?_
  refine lv_fcmp hx hb dL_crossings_300 ?_
  refine tI (y := nI 0) (by decide +kernel) ?_
  refine lv_if_ne (tgt := 413) hx hb dL_crossings_301 (by decide) (fun h => absurd h (by decide +kernel)) (fun _ => ?_)
  refine lv_aload_n hx hb dL_crossings_304 rfl (lv_at hl 0 rfl) ?_
  refine lv_bipush (v := nI 9) hx hb dL_crossings_305 (by decide +kernel) ?_
  refine lv_iconst (v := nI 1) hx hb dL_crossings_307 (by decide +kernel) ?_
  refine cx0 (st1 := [.int (fOf (fnL cr_L1) 9 1)]) (va_runV (As := [.int (nI 9), .int (nI 1)]) (rest := []) ⟨hx, hb, hml, hown, hts⟩ (CX_section_ok l G hX hR (by decide) 9 1 (by decide +kernel) (by decide +kernel)) (cwV 2 hts gL_crossings_X5_section rfl rfl rfl (by decide +kernel) ⟨Nat.le_of_ble_eq_true rfl, Nat.le_of_ble_eq_true rfl⟩) (PJ.preV hE hJ.jx (xs_recv hE.1 hX (P_pre hP)) ⟨P_pre hP, D_tr (D_pre hD)⟩) rfl rfl hl.1 rfl (lv_room (Nat.le_of_ble_eq_true rfl)) dL_crossings_308 ⟨Nat.le_of_ble_eq_true rfl, Nat.le_of_ble_eq_true rfl⟩) hP hD hS hJ0 hAl rfl (fun WC H locs hX hP hD hS hJ => ?_)
  refine tI (y := nI 299) (by decide +kernel) ?_
  refine lv_sipush (v := nI 299) hx hb dL_crossings_311 (by decide +kernel) ?_
  refine lv_icmp_ne (tgt := 413) hx hb dL_crossings_314 (by decide) (fun h => absurd h (by decide +kernel)) (fun _ => ?_)
  refine lv_aload_n hx hb dL_crossings_317 rfl (lv_at hl 0 rfl) ?_
  refine cx0 (st1 := [.int (nI (fHrs (fnL cr_L1)))]) (va_runV (As := []) (rest := []) ⟨hx, hb, hml, hown, hts⟩ (CX_cross_ok l G hX hR (by decide) (okf_cro hR.1).1 (by decide +kernel)) (cwV 0 hts gL_crossings_X5_cross rfl rfl rfl (by decide +kernel) ⟨Nat.le_of_ble_eq_true rfl, Nat.le_of_ble_eq_true rfl⟩) (PJ.preV hE hJ.jx (xs_recv hE.1 hX (P_pre hP)) ⟨P_pre hP, D_tr (D_pre hD)⟩) rfl rfl hl.1 rfl (lv_room (Nat.le_of_ble_eq_true rfl)) dL_crossings_318 ⟨Nat.le_of_ble_eq_true rfl, Nat.le_of_ble_eq_true rfl⟩) hP hD hS hJ0 hAl rfl (fun WC H locs hX hP hD hS hJ => ?_)
  have hR := PR_sav (B' := 20000) (f' := fCrs (fnL cr_L1)) (by decide) hR (okf_mono (by decide) (okf_crs (by decide) hR.1))
  rw [cr_e1] at hX hR
  replace hX : XS G q0 (fnL cr_L2) (fnL L0) (rgS ff1 1 (fnL cr_L1)) 0 2 0 (fnL T0) (nI 0) WC := hX
  replace hR : PR 20000 (fnL cr_L2) (fnL L0) (rgS ff1 1 (fnL cr_L1)) 0 2 0 (fnL T0) (nI 0) := hR
  obtain ⟨ff2, hff2⟩ : ∃ F, F = rgS ff1 1 (fnL cr_L1) := ⟨_, rfl⟩
  rw [← hff2] at hX hR
  refine tI (y := nI 1) (by decide +kernel) ?_
  refine lv_iconst (v := nI 1) hx hb dL_crossings_321 (by decide +kernel) ?_
  refine lv_icmp_ne (tgt := 413) hx hb dL_crossings_322 (by decide) (fun h => absurd h (by decide +kernel)) (fun _ => ?_)
  refine lv_aload_n hx hb dL_crossings_325 rfl (lv_at hl 0 rfl) ?_
  refine cx0 (st1 := [.int (nI (fHrs (fnL cr_L2)))]) (va_runV (As := []) (rest := []) ⟨hx, hb, hml, hown, hts⟩ (CX_cross_ok l G hX hR (by decide) (okf_cro hR.1).1 (by decide +kernel)) (cwV 0 hts gL_crossings_X5_cross rfl rfl rfl (by decide +kernel) ⟨Nat.le_of_ble_eq_true rfl, Nat.le_of_ble_eq_true rfl⟩) (PJ.preV hE hJ.jx (xs_recv hE.1 hX (P_pre hP)) ⟨P_pre hP, D_tr (D_pre hD)⟩) rfl rfl hl.1 rfl (lv_room (Nat.le_of_ble_eq_true rfl)) dL_crossings_326 ⟨Nat.le_of_ble_eq_true rfl, Nat.le_of_ble_eq_true rfl⟩) hP hD hS hJ0 hAl rfl (fun WC H locs hX hP hD hS hJ => ?_)
  have hR := PR_sav (B' := 30000) (f' := fCrs (fnL cr_L2)) (by decide) hR (okf_mono (by decide) (okf_crs (by decide) hR.1))
  rw [cr_e2] at hX hR
  replace hX : XS G q0 (fnL cr_L3) (fnL L0) (rgS ff2 2 (fnL cr_L2)) 0 3 0 (fnL T0) (nI 0) WC := hX
  replace hR : PR 30000 (fnL cr_L3) (fnL L0) (rgS ff2 2 (fnL cr_L2)) 0 3 0 (fnL T0) (nI 0) := hR
  obtain ⟨ff3, hff3⟩ : ∃ F, F = rgS ff2 2 (fnL cr_L2) := ⟨_, rfl⟩
  rw [← hff3] at hX hR
  refine tI (y := nI 1) (by decide +kernel) ?_
  refine lv_iconst (v := nI 1) hx hb dL_crossings_329 (by decide +kernel) ?_
  refine lv_icmp_ne (tgt := 413) hx hb dL_crossings_330 (by decide) (fun h => absurd h (by decide +kernel)) (fun _ => ?_)
  refine lv_aload_n hx hb dL_crossings_333 rfl (lv_at hl 0 rfl) ?_
  refine lv_iconst (v := nI 5) hx hb dL_crossings_334 (by decide +kernel) ?_
  refine cx0 (st1 := [.int (fCnt (fnL cr_L3) 3 5)]) (va_runV (As := [.int (nI 5)]) (rest := []) ⟨hx, hb, hml, hown, hts⟩ (CX_count_ok l G hX hR (by decide) 5 (by decide +kernel)) (cwV 1 hts gL_crossings_X5_count rfl rfl rfl (by decide +kernel) ⟨Nat.le_of_ble_eq_true rfl, Nat.le_of_ble_eq_true rfl⟩) (PJ.preV hE hJ.jx (xs_recv hE.1 hX (P_pre hP)) ⟨P_pre hP, D_tr (D_pre hD)⟩) rfl rfl hl.1 rfl (lv_room (Nat.le_of_ble_eq_true rfl)) dL_crossings_335 ⟨Nat.le_of_ble_eq_true rfl, Nat.le_of_ble_eq_true rfl⟩) hP hD hS hJ0 hAl rfl (fun WC H locs hX hP hD hS hJ => ?_)
  refine tI (y := nI 1) (by decide +kernel) ?_
  refine lv_iconst (v := nI 1) hx hb dL_crossings_338 (by decide +kernel) ?_
  refine lv_icmp_ne (tgt := 413) hx hb dL_crossings_339 (by decide) (fun h => absurd h (by decide +kernel)) (fun _ => ?_)
  refine lv_aload_n hx hb dL_crossings_342 rfl (lv_at hl 0 rfl) ?_
  refine lv_bipush (v := nI 6) hx hb dL_crossings_343 (by decide +kernel) ?_
  refine cx0 (st1 := [.int (fCnt (fnL cr_L3) 3 6)]) (va_runV (As := [.int (nI 6)]) (rest := []) ⟨hx, hb, hml, hown, hts⟩ (CX_count_ok l G hX hR (by decide) 6 (by decide +kernel)) (cwV 1 hts gL_crossings_X5_count rfl rfl rfl (by decide +kernel) ⟨Nat.le_of_ble_eq_true rfl, Nat.le_of_ble_eq_true rfl⟩) (PJ.preV hE hJ.jx (xs_recv hE.1 hX (P_pre hP)) ⟨P_pre hP, D_tr (D_pre hD)⟩) rfl rfl hl.1 rfl (lv_room (Nat.le_of_ble_eq_true rfl)) dL_crossings_345 ⟨Nat.le_of_ble_eq_true rfl, Nat.le_of_ble_eq_true rfl⟩) hP hD hS hJ0 hAl rfl (fun WC H locs hX hP hD hS hJ => ?_)
  refine tI (y := nI 160) (by decide +kernel) ?_
  refine lv_sipush (v := nI 160) hx hb dL_crossings_348 (by decide +kernel) ?_
  refine lv_icmp_ne (tgt := 413) hx hb dL_crossings_351 (by decide) (fun h => absurd h (by decide +kernel)) (fun _ => ?_)
  refine lv_aload_n hx hb dL_crossings_354 rfl (lv_at hl 0 rfl) ?_
  refine lv_bipush (v := nI 8) hx hb dL_crossings_355 (by decide +kernel) ?_
  refine cx0 (st1 := [.int (fCnt (fnL cr_L3) 3 8)]) (va_runV (As := [.int (nI 8)]) (rest := []) ⟨hx, hb, hml, hown, hts⟩ (CX_count_ok l G hX hR (by decide) 8 (by decide +kernel)) (cwV 1 hts gL_crossings_X5_count rfl rfl rfl (by decide +kernel) ⟨Nat.le_of_ble_eq_true rfl, Nat.le_of_ble_eq_true rfl⟩) (PJ.preV hE hJ.jx (xs_recv hE.1 hX (P_pre hP)) ⟨P_pre hP, D_tr (D_pre hD)⟩) rfl rfl hl.1 rfl (lv_room (Nat.le_of_ble_eq_true rfl)) dL_crossings_357 ⟨Nat.le_of_ble_eq_true rfl, Nat.le_of_ble_eq_true rfl⟩) hP hD hS hJ0 hAl rfl (fun WC H locs hX hP hD hS hJ => ?_)
  refine tI (y := nI 3) (by decide +kernel) ?_
  refine lv_iconst (v := nI 3) hx hb dL_crossings_360 (by decide +kernel) ?_
  refine lv_icmp_ne (tgt := 413) hx hb dL_crossings_361 (by decide) (fun h => absurd h (by decide +kernel)) (fun _ => ?_)
  refine lv_aload_n hx hb dL_crossings_364 rfl (lv_at hl 0 rfl) ?_
  refine lv_iconst (v := nI 0) hx hb dL_crossings_365 (by decide +kernel) ?_
  refine cx0 (st1 := [.int (fCnt (fnL cr_L3) 3 0)]) (va_runV (As := [.int (nI 0)]) (rest := []) ⟨hx, hb, hml, hown, hts⟩ (CX_count_ok l G hX hR (by decide) 0 (by decide +kernel)) (cwV 1 hts gL_crossings_X5_count rfl rfl rfl (by decide +kernel) ⟨Nat.le_of_ble_eq_true rfl, Nat.le_of_ble_eq_true rfl⟩) (PJ.preV hE hJ.jx (xs_recv hE.1 hX (P_pre hP)) ⟨P_pre hP, D_tr (D_pre hD)⟩) rfl rfl hl.1 rfl (lv_room (Nat.le_of_ble_eq_true rfl)) dL_crossings_366 ⟨Nat.le_of_ble_eq_true rfl, Nat.le_of_ble_eq_true rfl⟩) hP hD hS hJ0 hAl rfl (fun WC H locs hX hP hD hS hJ => ?_)
  refine tI (y := nI 3) (by decide +kernel) ?_
  refine lv_iconst (v := nI 3) hx hb dL_crossings_369 (by decide +kernel) ?_
  refine lv_icmp_ne (tgt := 413) hx hb dL_crossings_370 (by decide) (fun h => absurd h (by decide +kernel)) (fun _ => ?_)
  refine lv_aload_n hx hb dL_crossings_373 rfl (lv_at hl 0 rfl) ?_
  refine lv_iconst (v := nI 0) hx hb dL_crossings_374 (by decide +kernel) ?_
  refine lv_iconst (v := nI 2) hx hb dL_crossings_375 (by decide +kernel) ?_
  refine cx0 (st1 := [.int (fOf (fnL cr_L3) 0 2)]) (va_runV (As := [.int (nI 0), .int (nI 2)]) (rest := []) ⟨hx, hb, hml, hown, hts⟩ (CX_section_ok l G hX hR (by decide) 0 2 (by decide +kernel) (by decide +kernel)) (cwV 2 hts gL_crossings_X5_section rfl rfl rfl (by decide +kernel) ⟨Nat.le_of_ble_eq_true rfl, Nat.le_of_ble_eq_true rfl⟩) (PJ.preV hE hJ.jx (xs_recv hE.1 hX (P_pre hP)) ⟨P_pre hP, D_tr (D_pre hD)⟩) rfl rfl hl.1 rfl (lv_room (Nat.le_of_ble_eq_true rfl)) dL_crossings_376 ⟨Nat.le_of_ble_eq_true rfl, Nat.le_of_ble_eq_true rfl⟩) hP hD hS hJ0 hAl rfl (fun WC H locs hX hP hD hS hJ => ?_)
  refine tI (y := nI 0) (by decide +kernel) ?_
  refine lv_if_ne (tgt := 413) hx hb dL_crossings_379 (by decide) (fun h => absurd h (by decide +kernel)) (fun _ => ?_)
  refine lv_aload_n hx hb dL_crossings_382 rfl (lv_at hl 0 rfl) ?_
  refine lv_iconst (v := nI 1) hx hb dL_crossings_383 (by decide +kernel) ?_
  refine lv_iconst (v := nI 2) hx hb dL_crossings_384 (by decide +kernel) ?_
  refine cx0 (st1 := [.int (fOf (fnL cr_L3) 1 2)]) (va_runV (As := [.int (nI 1), .int (nI 2)]) (rest := []) ⟨hx, hb, hml, hown, hts⟩ (CX_section_ok l G hX hR (by decide) 1 2 (by decide +kernel) (by decide +kernel)) (cwV 2 hts gL_crossings_X5_section rfl rfl rfl (by decide +kernel) ⟨Nat.le_of_ble_eq_true rfl, Nat.le_of_ble_eq_true rfl⟩) (PJ.preV hE hJ.jx (xs_recv hE.1 hX (P_pre hP)) ⟨P_pre hP, D_tr (D_pre hD)⟩) rfl rfl hl.1 rfl (lv_room (Nat.le_of_ble_eq_true rfl)) dL_crossings_385 ⟨Nat.le_of_ble_eq_true rfl, Nat.le_of_ble_eq_true rfl⟩) hP hD hS hJ0 hAl rfl (fun WC H locs hX hP hD hS hJ => ?_)
  refine tI (y := nI 0) (by decide +kernel) ?_
  refine lv_if_ne (tgt := 413) hx hb dL_crossings_388 (by decide) (fun h => absurd h (by decide +kernel)) (fun _ => ?_)
  refine lv_aload_n hx hb dL_crossings_391 rfl (lv_at hl 0 rfl) ?_
  refine lv_iconst (v := nI 2) hx hb dL_crossings_392 (by decide +kernel) ?_
  refine lv_iconst (v := nI 2) hx hb dL_crossings_393 (by decide +kernel) ?_
  refine cx0 (st1 := [.int (fOf (fnL cr_L3) 2 2)]) (va_runV (As := [.int (nI 2), .int (nI 2)]) (rest := []) ⟨hx, hb, hml, hown, hts⟩ (CX_section_ok l G hX hR (by decide) 2 2 (by decide +kernel) (by decide +kernel)) (cwV 2 hts gL_crossings_X5_section rfl rfl rfl (by decide +kernel) ⟨Nat.le_of_ble_eq_true rfl, Nat.le_of_ble_eq_true rfl⟩) (PJ.preV hE hJ.jx (xs_recv hE.1 hX (P_pre hP)) ⟨P_pre hP, D_tr (D_pre hD)⟩) rfl rfl hl.1 rfl (lv_room (Nat.le_of_ble_eq_true rfl)) dL_crossings_394 ⟨Nat.le_of_ble_eq_true rfl, Nat.le_of_ble_eq_true rfl⟩) hP hD hS hJ0 hAl rfl (fun WC H locs hX hP hD hS hJ => ?_)
  refine tI (y := nI 2) (by decide +kernel) ?_
  refine lv_iconst (v := nI 2) hx hb dL_crossings_397 (by decide +kernel) ?_
  refine lv_icmp_ne (tgt := 413) hx hb dL_crossings_398 (by decide) (fun h => absurd h (by decide +kernel)) (fun _ => ?_)
  refine lv_aload_n hx hb dL_crossings_401 rfl (lv_at hl 0 rfl) ?_
  refine lv_bipush (v := nI 9) hx hb dL_crossings_402 (by decide +kernel) ?_
  refine lv_iconst (v := nI 2) hx hb dL_crossings_404 (by decide +kernel) ?_
  refine cx0 (st1 := [.int (fOf (fnL cr_L3) 9 2)]) (va_runV (As := [.int (nI 9), .int (nI 2)]) (rest := []) ⟨hx, hb, hml, hown, hts⟩ (CX_section_ok l G hX hR (by decide) 9 2 (by decide +kernel) (by decide +kernel)) (cwV 2 hts gL_crossings_X5_section rfl rfl rfl (by decide +kernel) ⟨Nat.le_of_ble_eq_true rfl, Nat.le_of_ble_eq_true rfl⟩) (PJ.preV hE hJ.jx (xs_recv hE.1 hX (P_pre hP)) ⟨P_pre hP, D_tr (D_pre hD)⟩) rfl rfl hl.1 rfl (lv_room (Nat.le_of_ble_eq_true rfl)) dL_crossings_405 ⟨Nat.le_of_ble_eq_true rfl, Nat.le_of_ble_eq_true rfl⟩) hP hD hS hJ0 hAl rfl (fun WC H locs hX hP hD hS hJ => ?_)
  refine tI (y := nI 16) (by decide +kernel) ?_
  refine lv_bipush (v := nI 16) hx hb dL_crossings_408 (by decide +kernel) ?_
  refine lv_icmp_eq (tgt := 415) hx hb dL_crossings_410 (by decide) (fun _ => ?_) (fun h => absurd h (by decide +kernel))
  refine lv_aload_n hx hb dL_crossings_415 rfl (lv_at hl 0 rfl) ?_
  refine lv_iconst (v := nI 2) hx hb dL_crossings_416 (by decide +kernel) ?_
  refine cx0 (st1 := [.int ((fnL cr_L3) 49 - nI 2)]) (va_runV (As := [.int (nI 2)]) (rest := []) ⟨hx, hb, hml, hown, hts⟩ (CX_draw_ok l G hX hR (by decide) hR.1.2.2.1.2.2.1 2 (by decide +kernel) (by decide +kernel) (by decide +kernel)) (cwV 1 hts gL_crossings_X5_draw rfl rfl rfl (by decide +kernel) ⟨Nat.le_of_ble_eq_true rfl, Nat.le_of_ble_eq_true rfl⟩) (PJ.preV hE hJ.jx (xs_recv hE.1 hX (P_pre hP)) ⟨P_pre hP, D_tr (D_pre hD)⟩) rfl rfl hl.1 rfl (lv_room (Nat.le_of_ble_eq_true rfl)) dL_crossings_417 ⟨Nat.le_of_ble_eq_true rfl, Nat.le_of_ble_eq_true rfl⟩) hP hD hS hJ0 hAl rfl (fun WC H locs hX hP hD hS hJ => ?_)
  have hR := PR_sav (B' := 40000) (f' := fDrw (fnL cr_L3) 2) (by decide) hR (okf_mono (by decide) (okf_drw (by decide) (by decide) (by decide +kernel) hR.1))
  rw [cr_e3] at hX hR
  replace hX : XS G q0 (fnL cr_L4) (fnL L0) (rgS ff3 3 (fnL cr_L3)) 0 4 0 (fnL T0) (nI 0) WC := hX
  replace hR : PR 40000 (fnL cr_L4) (fnL L0) (rgS ff3 3 (fnL cr_L3)) 0 4 0 (fnL T0) (nI 0) := hR
  obtain ⟨ff4, hff4⟩ : ∃ F, F = rgS ff3 3 (fnL cr_L3) := ⟨_, rfl⟩
  rw [← hff4] at hX hR
  refine tI (y := nI 38) (by decide +kernel) ?_
  refine lv_bipush (v := nI 38) hx hb dL_crossings_420 (by decide +kernel) ?_
  refine lv_icmp_ne (tgt := 706) hx hb dL_crossings_422 (by decide) (fun h => absurd h (by decide +kernel)) (fun _ => ?_)
  refine lv_aload_n hx hb dL_crossings_425 rfl (lv_at hl 0 rfl) ?_
  refine lv_iconst (v := nI 0) hx hb dL_crossings_426 (by decide +kernel) ?_
  refine cx0 (st1 := [.int (fCnt (fnL cr_L4) 4 0)]) (va_runV (As := [.int (nI 0)]) (rest := []) ⟨hx, hb, hml, hown, hts⟩ (CX_count_ok l G hX hR (by decide) 0 (by decide +kernel)) (cwV 1 hts gL_crossings_X5_count rfl rfl rfl (by decide +kernel) ⟨Nat.le_of_ble_eq_true rfl, Nat.le_of_ble_eq_true rfl⟩) (PJ.preV hE hJ.jx (xs_recv hE.1 hX (P_pre hP)) ⟨P_pre hP, D_tr (D_pre hD)⟩) rfl rfl hl.1 rfl (lv_room (Nat.le_of_ble_eq_true rfl)) dL_crossings_427 ⟨Nat.le_of_ble_eq_true rfl, Nat.le_of_ble_eq_true rfl⟩) hP hD hS hJ0 hAl rfl (fun WC H locs hX hP hD hS hJ => ?_)
  refine tI (y := nI 5) (by decide +kernel) ?_
  refine lv_iconst (v := nI 5) hx hb dL_crossings_430 (by decide +kernel) ?_
  refine lv_icmp_ne (tgt := 706) hx hb dL_crossings_431 (by decide) (fun h => absurd h (by decide +kernel)) (fun _ => ?_)
  refine lv_aload_n hx hb dL_crossings_434 rfl (lv_at hl 0 rfl) ?_
  refine lv_iconst (v := nI 5) hx hb dL_crossings_435 (by decide +kernel) ?_
  refine cx0 (st1 := [.int (fCnt (fnL cr_L4) 4 5)]) (va_runV (As := [.int (nI 5)]) (rest := []) ⟨hx, hb, hml, hown, hts⟩ (CX_count_ok l G hX hR (by decide) 5 (by decide +kernel)) (cwV 1 hts gL_crossings_X5_count rfl rfl rfl (by decide +kernel) ⟨Nat.le_of_ble_eq_true rfl, Nat.le_of_ble_eq_true rfl⟩) (PJ.preV hE hJ.jx (xs_recv hE.1 hX (P_pre hP)) ⟨P_pre hP, D_tr (D_pre hD)⟩) rfl rfl hl.1 rfl (lv_room (Nat.le_of_ble_eq_true rfl)) dL_crossings_436 ⟨Nat.le_of_ble_eq_true rfl, Nat.le_of_ble_eq_true rfl⟩) hP hD hS hJ0 hAl rfl (fun WC H locs hX hP hD hS hJ => ?_)
  refine tI (y := nI 0) (by decide +kernel) ?_
  refine lv_if_ne (tgt := 706) hx hb dL_crossings_439 (by decide) (fun h => absurd h (by decide +kernel)) (fun _ => ?_)
  exact cr_s2 hlt hL9 hX hR hP hD hS hl
set_option maxHeartbeats 8000000 in
set_option maxRecDepth 100000 in
theorem K_crossings (l : Launch) (hlt : l.stackTraces = false) (G : eG) (lo sz : Nat) : Met l yL_crossings wsL_crossings ({ frames := 10, cells := 258, slots := 1912, locals := 193 }) (PB lo G sz) (MV (some (.int (nI 1))) (fun _ => True) (fun q => sz ≤ q)) 258 1912 (fun q => sz ≤ q) := by
  refine ofBB (cc := cL_crossings) (maxL := 1) (ret := some .boolean) (by decide) rfl ?_
  intro p e s m below meth c hx hb hr hlocks hml hown hts hE hJ0 hF0 hsz ls hl
  subst hsz
  replace hown : s.vm.findClass RL = some m.cls := hown
  have hL : LC cL_crossings 1 wsL_crossings p s m meth c ([] : List Value).toArray G lo := ⟨hx, hb, hml, hown, hts, hE, hJ0, hF0, hr, hlocks⟩
  have hL9 := hL
  have hAl : ∀ q, AA s q → lo ≤ q := fun q h => Nat.le_trans hJ0.1 h
  have hA : ∀ q : Nat, s.heap.size ≤ q → AA s q := fun _ h => h
  have hS : va_S (AA s) s.heap s.heap [] := va_S.rf
  have hP : va_P G.1 vwCl [] s.heap := P_nil
  have hD : va_D (AA s) [] := ⟨fun i j p q h => by simp at h, fun k q h => by simp at h⟩
  show W p l e _ s m ([] : List Value).toArray below meth c s.heap [] 0 0 (MQ below (MV (some (.int (nI 1))) (fun _ => True) (AA s)) ([] : List Value).toArray s 258 1912 (AA s)) (F0 m 0 ls [])
  refine va_new (ci := 5) (fs := [.null, .null, .null, .null, .null, .int (nI 0)]) (C := RX5) (T := TX5) (N := 6) hx hb hts (by decide +kernel) tyX5 tyX5_ok hown (hts (.classLink RL 10 RX5) (by decide +kernel)) (hts (.instantiable RX5 6) (by decide +kernel)) (hts (.initialized RX5) (by decide +kernel)) hE.1 hP hD hS hA rfl (fun j hj => by rcases (show j = 0 ∨ j = 1 ∨ j = 2 ∨ j = 3 ∨ j = 4 ∨ j = 5 by omega) with rfl | rfl | rfl | rfl | rfl | rfl <;> rfl) (Nat.le_of_ble_eq_true rfl) (Nat.le_of_ble_eq_true rfl) dL_crossings_0 (fun q0 H hP hD hS => ?_)
  refine W.widen (k := 1) (n := 6) (Nat.le_of_ble_eq_true rfl) (Nat.le_of_ble_eq_true rfl) ?_
  refine lv_dup hx hb dL_crossings_3 rfl ?_
  have hFc := frC (w := []) hD hS hA
  refine mcall (st1 := [.ref q0]) (va_runI (As := []) (rest := [.ref q0]) ⟨hx, hb, hml, hown, hts⟩ (c_X5_init l G lo q0 H.size (Nat.le_trans hJ0.1 (D_last (w := []) hD)) (Nat.le_trans hJ0.1 hS.1)) (cwI 0 hts gL_crossings_X5_init rfl rfl rfl (hts (.initialized RX5) (by decide +kernel)) (hts (.methodLink RL 105 yX5_init) (by decide +kernel)) (hts (.instanceMethod yX5_init) (by decide +kernel)) rfl (by decide +kernel) ⟨Nat.le_of_ble_eq_true rfl, Nat.le_of_ble_eq_true rfl⟩) (PF.preS hE (hF0.kept (fun a h1 h2 => hS.2.1 a h1 (fun h => h2 (Nat.le_trans hJ0.1 h)))) ⟨rfl, P_last (w := []) hP⟩) rfl rfl hl.1 rfl (lv_room (Nat.le_of_ble_eq_true rfl)) dL_crossings_4 ⟨Nat.le_of_ble_eq_true rfl, Nat.le_of_ble_eq_true rfl⟩) hS (fun x _ h => hFc x h) hFc rfl (fun H1 locs1 hB hz1 hk1 hS => ?_)
  refine W.widen (k := 158) (n := 1312) (Nat.le_of_ble_eq_true rfl) (Nat.le_of_ble_eq_true rfl) ?_
  obtain ⟨an, tn, sn, ha, sv, aa, oa, co, hP1, hD1⟩ := hB
  obtain ⟨hP, hD⟩ := jnC (w := []) hP hD hFc hk1 hP1 hD1
  clear hP1 hD1 hFc
  generalize H1 = H at hP hS ⊢
  obtain ⟨WC, hX, hP, hD⟩ := new_XS hP hD
  have hR := new_PR
  have hJ : JB lo s H := hJ0.S hAl hS
  refine lv_astore_n (lv' := [(0, .ref q0)]) hx hb dL_crossings_7 rfl hl (by decide) rfl (fun ls hl => ?_)
  refine lv_aload_n hx hb dL_crossings_8 rfl (lv_at hl 0 rfl) ?_
  refine lv_bipush (v := nI 11) hx hb dL_crossings_9 (by decide +kernel) ?_
  refine lv_iconst (v := nI 0) hx hb dL_crossings_11 (by decide +kernel) ?_
  refine lv_iconst (v := nI 0) hx hb dL_crossings_12 (by decide +kernel) ?_
  refine cxc (st1 := [.int (-13)]) (vx_runSW (As := [.ref q0, .int (nI 11), .int (nI 0), .int (nI 0)]) (rest := []) ⟨hx, hb, hml, hown, hts⟩ (CC_undo_e1 l hlt G hX hR (by decide) rfl (nI 0) (nI 0)) (vx_cwSW 4 hts gL_crossings_L_call rfl rfl rfl (by decide +kernel) ⟨Nat.le_of_ble_eq_true rfl, Nat.le_of_ble_eq_true rfl⟩) (PK.preS hE hJ ⟨P_pre hP, D_al hAl (D_pre hD)⟩) rfl rfl hl.1 rfl (lv_room (Nat.le_of_ble_eq_true rfl)) dL_crossings_13 ⟨Nat.le_of_ble_eq_true rfl, Nat.le_of_ble_eq_true rfl⟩) hP hD hS hJ0 hAl rfl (fun WC H locs hX hP hD hS hJ => ?_)
  refine lv_bipush (v := -13) hx hb dL_crossings_16 (by decide +kernel) ?_
  refine lv_icmp_ne (tgt := 413) hx hb dL_crossings_18 (by decide) (fun h => absurd h (by decide +kernel)) (fun _ => ?_)
  refine lv_aload_n hx hb dL_crossings_21 rfl (lv_at hl 0 rfl) ?_
  refine lv_bipush (v := nI 10) hx hb dL_crossings_22 (by decide +kernel) ?_
  refine lv_iconst (v := nI 0) hx hb dL_crossings_24 (by decide +kernel) ?_
  refine lv_iconst (v := nI 0) hx hb dL_crossings_25 (by decide +kernel) ?_
  refine cxc (st1 := [.int (-13)]) (vx_runSW (As := [.ref q0, .int (nI 10), .int (nI 0), .int (nI 0)]) (rest := []) ⟨hx, hb, hml, hown, hts⟩ (CC_goBack_e1 l hlt G hX hR (by decide) (nI 0) (nI 0)) (vx_cwSW 4 hts gL_crossings_L_call rfl rfl rfl (by decide +kernel) ⟨Nat.le_of_ble_eq_true rfl, Nat.le_of_ble_eq_true rfl⟩) (PK.preS hE hJ ⟨P_pre hP, D_al hAl (D_pre hD)⟩) rfl rfl hl.1 rfl (lv_room (Nat.le_of_ble_eq_true rfl)) dL_crossings_26 ⟨Nat.le_of_ble_eq_true rfl, Nat.le_of_ble_eq_true rfl⟩) hP hD hS hJ0 hAl rfl (fun WC H locs hX hP hD hS hJ => ?_)
  refine lv_bipush (v := -13) hx hb dL_crossings_29 (by decide +kernel) ?_
  refine lv_icmp_ne (tgt := 413) hx hb dL_crossings_31 (by decide) (fun h => absurd h (by decide +kernel)) (fun _ => ?_)
  refine lv_aload_n hx hb dL_crossings_34 rfl (lv_at hl 0 rfl) ?_
  refine lv_iconst (v := nI 1) hx hb dL_crossings_35 (by decide +kernel) ?_
  refine lv_iconst (v := nI 0) hx hb dL_crossings_36 (by decide +kernel) ?_
  refine lv_iconst (v := nI 0) hx hb dL_crossings_37 (by decide +kernel) ?_
  refine cxc (st1 := [.int (-13)]) (vx_runSW (As := [.ref q0, .int (nI 1), .int (nI 0), .int (nI 0)]) (rest := []) ⟨hx, hb, hml, hown, hts⟩ (CC_load_e2 l hlt G hX hR (by decide) 0 (by decide +kernel) (by decide +kernel) (nI 0)) (vx_cwSW 4 hts gL_crossings_L_call rfl rfl rfl (by decide +kernel) ⟨Nat.le_of_ble_eq_true rfl, Nat.le_of_ble_eq_true rfl⟩) (PK.preS hE hJ ⟨P_pre hP, D_al hAl (D_pre hD)⟩) rfl rfl hl.1 rfl (lv_room (Nat.le_of_ble_eq_true rfl)) dL_crossings_38 ⟨Nat.le_of_ble_eq_true rfl, Nat.le_of_ble_eq_true rfl⟩) hP hD hS hJ0 hAl rfl (fun WC H locs hX hP hD hS hJ => ?_)
  refine lv_bipush (v := -13) hx hb dL_crossings_41 (by decide +kernel) ?_
  refine lv_icmp_ne (tgt := 413) hx hb dL_crossings_43 (by decide) (fun h => absurd h (by decide +kernel)) (fun _ => ?_)
  refine lv_aload_n hx hb dL_crossings_46 rfl (lv_at hl 0 rfl) ?_
  refine cx0 (st1 := [.int (fRsn (fnL L0))]) (va_runV (As := []) (rest := []) ⟨hx, hb, hml, hown, hts⟩ (CX_why l G hX hR (by decide) ) (cwV 0 hts gL_crossings_X5_why rfl rfl rfl (by decide +kernel) ⟨Nat.le_of_ble_eq_true rfl, Nat.le_of_ble_eq_true rfl⟩) (PJ.preV hE hJ.jx (xs_recv hE.1 hX (P_pre hP)) ⟨P_pre hP, D_tr (D_pre hD)⟩) rfl rfl hl.1 rfl (lv_room (Nat.le_of_ble_eq_true rfl)) dL_crossings_47 ⟨Nat.le_of_ble_eq_true rfl, Nat.le_of_ble_eq_true rfl⟩) hP hD hS hJ0 hAl rfl (fun WC H locs hX hP hD hS hJ => ?_)
  refine tI (y := nI 0) (by decide +kernel) ?_
  refine lv_if_ne (tgt := 413) hx hb dL_crossings_50 (by decide) (fun h => absurd h (by decide +kernel)) (fun _ => ?_)
  refine lv_aload_n hx hb dL_crossings_53 rfl (lv_at hl 0 rfl) ?_
  refine cx0 (st1 := [.int (nI (wkN (fnL L0) 20))]) (va_runV (As := []) (rest := []) ⟨hx, hb, hml, hown, hts⟩ (CX_weakest_ok l G hX hR (by decide) ) (cwV 0 hts gL_crossings_X5_weakest rfl rfl rfl (by decide +kernel) ⟨Nat.le_of_ble_eq_true rfl, Nat.le_of_ble_eq_true rfl⟩) (PJ.preV hE hJ.jx (xs_recv hE.1 hX (P_pre hP)) ⟨P_pre hP, D_tr (D_pre hD)⟩) rfl rfl hl.1 rfl (lv_room (Nat.le_of_ble_eq_true rfl)) dL_crossings_54 ⟨Nat.le_of_ble_eq_true rfl, Nat.le_of_ble_eq_true rfl⟩) hP hD hS hJ0 hAl rfl (fun WC H locs hX hP hD hS hJ => ?_)
  refine tI (y := nI 9) (by decide +kernel) ?_
  refine lv_bipush (v := nI 9) hx hb dL_crossings_57 (by decide +kernel) ?_
  refine lv_icmp_ne (tgt := 413) hx hb dL_crossings_59 (by decide) (fun h => absurd h (by decide +kernel)) (fun _ => ?_)
  refine lv_aload_n hx hb dL_crossings_62 rfl (lv_at hl 0 rfl) ?_
  refine lv_iconst (v := nI 0) hx hb dL_crossings_63 (by decide +kernel) ?_
  refine lv_iconst (v := nI 2) hx hb dL_crossings_64 (by decide +kernel) ?_
  refine cx0 (st1 := [.int (fOf (fnL L0) 0 2)]) (va_runV (As := [.int (nI 0), .int (nI 2)]) (rest := []) ⟨hx, hb, hml, hown, hts⟩ (CX_section_ok l G hX hR (by decide) 0 2 (by decide +kernel) (by decide +kernel)) (cwV 2 hts gL_crossings_X5_section rfl rfl rfl (by decide +kernel) ⟨Nat.le_of_ble_eq_true rfl, Nat.le_of_ble_eq_true rfl⟩) (PJ.preV hE hJ.jx (xs_recv hE.1 hX (P_pre hP)) ⟨P_pre hP, D_tr (D_pre hD)⟩) rfl rfl hl.1 rfl (lv_room (Nat.le_of_ble_eq_true rfl)) dL_crossings_65 ⟨Nat.le_of_ble_eq_true rfl, Nat.le_of_ble_eq_true rfl⟩) hP hD hS hJ0 hAl rfl (fun WC H locs hX hP hD hS hJ => ?_)
  refine tI (y := nI 2) (by decide +kernel) ?_
  refine lv_iconst (v := nI 2) hx hb dL_crossings_68 (by decide +kernel) ?_
  refine lv_icmp_ne (tgt := 413) hx hb dL_crossings_69 (by decide) (fun h => absurd h (by decide +kernel)) (fun _ => ?_)
  refine lv_aload_n hx hb dL_crossings_72 rfl (lv_at hl 0 rfl) ?_
  refine lv_bipush (v := nI 9) hx hb dL_crossings_73 (by decide +kernel) ?_
  refine lv_iconst (v := nI 2) hx hb dL_crossings_75 (by decide +kernel) ?_
  refine cx0 (st1 := [.int (fOf (fnL L0) 9 2)]) (va_runV (As := [.int (nI 9), .int (nI 2)]) (rest := []) ⟨hx, hb, hml, hown, hts⟩ (CX_section_ok l G hX hR (by decide) 9 2 (by decide +kernel) (by decide +kernel)) (cwV 2 hts gL_crossings_X5_section rfl rfl rfl (by decide +kernel) ⟨Nat.le_of_ble_eq_true rfl, Nat.le_of_ble_eq_true rfl⟩) (PJ.preV hE hJ.jx (xs_recv hE.1 hX (P_pre hP)) ⟨P_pre hP, D_tr (D_pre hD)⟩) rfl rfl hl.1 rfl (lv_room (Nat.le_of_ble_eq_true rfl)) dL_crossings_76 ⟨Nat.le_of_ble_eq_true rfl, Nat.le_of_ble_eq_true rfl⟩) hP hD hS hJ0 hAl rfl (fun WC H locs hX hP hD hS hJ => ?_)
  refine tI (y := nI 20) (by decide +kernel) ?_
  refine lv_bipush (v := nI 20) hx hb dL_crossings_79 (by decide +kernel) ?_
  refine lv_icmp_ne (tgt := 413) hx hb dL_crossings_81 (by decide) (fun h => absurd h (by decide +kernel)) (fun _ => ?_)
  refine lv_aload_n hx hb dL_crossings_84 rfl (lv_at hl 0 rfl) ?_
  refine lv_bipush (v := nI 10) hx hb dL_crossings_85 (by decide +kernel) ?_
  refine lv_iconst (v := nI 2) hx hb dL_crossings_87 (by decide +kernel) ?_
  refine cx0 (st1 := [.int (fOf (fnL L0) 10 2)]) (va_runV (As := [.int (nI 10), .int (nI 2)]) (rest := []) ⟨hx, hb, hml, hown, hts⟩ (CX_section_ok l G hX hR (by decide) 10 2 (by decide +kernel) (by decide +kernel)) (cwV 2 hts gL_crossings_X5_section rfl rfl rfl (by decide +kernel) ⟨Nat.le_of_ble_eq_true rfl, Nat.le_of_ble_eq_true rfl⟩) (PJ.preV hE hJ.jx (xs_recv hE.1 hX (P_pre hP)) ⟨P_pre hP, D_tr (D_pre hD)⟩) rfl rfl hl.1 rfl (lv_room (Nat.le_of_ble_eq_true rfl)) dL_crossings_88 ⟨Nat.le_of_ble_eq_true rfl, Nat.le_of_ble_eq_true rfl⟩) hP hD hS hJ0 hAl rfl (fun WC H locs hX hP hD hS hJ => ?_)
  refine tI (y := nI 20) (by decide +kernel) ?_
  refine lv_bipush (v := nI 20) hx hb dL_crossings_91 (by decide +kernel) ?_
  refine lv_icmp_ne (tgt := 413) hx hb dL_crossings_93 (by decide) (fun h => absurd h (by decide +kernel)) (fun _ => ?_)
  refine lv_aload_n hx hb dL_crossings_96 rfl (lv_at hl 0 rfl) ?_
  refine lv_bipush (v := nI 19) hx hb dL_crossings_97 (by decide +kernel) ?_
  refine lv_iconst (v := nI 2) hx hb dL_crossings_99 (by decide +kernel) ?_
  refine cx0 (st1 := [.int (fOf (fnL L0) 19 2)]) (va_runV (As := [.int (nI 19), .int (nI 2)]) (rest := []) ⟨hx, hb, hml, hown, hts⟩ (CX_section_ok l G hX hR (by decide) 19 2 (by decide +kernel) (by decide +kernel)) (cwV 2 hts gL_crossings_X5_section rfl rfl rfl (by decide +kernel) ⟨Nat.le_of_ble_eq_true rfl, Nat.le_of_ble_eq_true rfl⟩) (PJ.preV hE hJ.jx (xs_recv hE.1 hX (P_pre hP)) ⟨P_pre hP, D_tr (D_pre hD)⟩) rfl rfl hl.1 rfl (lv_room (Nat.le_of_ble_eq_true rfl)) dL_crossings_100 ⟨Nat.le_of_ble_eq_true rfl, Nat.le_of_ble_eq_true rfl⟩) hP hD hS hJ0 hAl rfl (fun WC H locs hX hP hD hS hJ => ?_)
  refine tI (y := nI 2) (by decide +kernel) ?_
  refine lv_iconst (v := nI 2) hx hb dL_crossings_103 (by decide +kernel) ?_
  refine lv_icmp_ne (tgt := 413) hx hb dL_crossings_104 (by decide) (fun h => absurd h (by decide +kernel)) (fun _ => ?_)
  refine lv_aload_n hx hb dL_crossings_107 rfl (lv_at hl 0 rfl) ?_
  refine lv_iconst (v := nI 5) hx hb dL_crossings_108 (by decide +kernel) ?_
  refine lv_iconst (v := nI 1) hx hb dL_crossings_109 (by decide +kernel) ?_
  refine cx0 (st1 := [.int (fOf (fnL L0) 5 1)]) (va_runV (As := [.int (nI 5), .int (nI 1)]) (rest := []) ⟨hx, hb, hml, hown, hts⟩ (CX_section_ok l G hX hR (by decide) 5 1 (by decide +kernel) (by decide +kernel)) (cwV 2 hts gL_crossings_X5_section rfl rfl rfl (by decide +kernel) ⟨Nat.le_of_ble_eq_true rfl, Nat.le_of_ble_eq_true rfl⟩) (PJ.preV hE hJ.jx (xs_recv hE.1 hX (P_pre hP)) ⟨P_pre hP, D_tr (D_pre hD)⟩) rfl rfl hl.1 rfl (lv_room (Nat.le_of_ble_eq_true rfl)) dL_crossings_110 ⟨Nat.le_of_ble_eq_true rfl, Nat.le_of_ble_eq_true rfl⟩) hP hD hS hJ0 hAl rfl (fun WC H locs hX hP hD hS hJ => ?_)
  refine tI (y := nI 300) (by decide +kernel) ?_
  refine lv_sipush (v := nI 300) hx hb dL_crossings_113 (by decide +kernel) ?_
  refine lv_icmp_ne (tgt := 413) hx hb dL_crossings_116 (by decide) (fun h => absurd h (by decide +kernel)) (fun _ => ?_)
  refine lv_aload_n hx hb dL_crossings_119 rfl (lv_at hl 0 rfl) ?_
  refine cx0 (st1 := [.int (nI (bN (fnL L0) 24))]) (va_runV (As := []) (rest := []) ⟨hx, hb, hml, hown, hts⟩ (CX_bestHour_ok l G hX hR (by decide) ) (cwV 0 hts gL_crossings_X5_bestHour rfl rfl rfl (by decide +kernel) ⟨Nat.le_of_ble_eq_true rfl, Nat.le_of_ble_eq_true rfl⟩) (PJ.preV hE hJ.jx (xs_recv hE.1 hX (P_pre hP)) ⟨P_pre hP, D_tr (D_pre hD)⟩) rfl rfl hl.1 rfl (lv_room (Nat.le_of_ble_eq_true rfl)) dL_crossings_120 ⟨Nat.le_of_ble_eq_true rfl, Nat.le_of_ble_eq_true rfl⟩) hP hD hS hJ0 hAl rfl (fun WC H locs hX hP hD hS hJ => ?_)
  refine tI (y := nI 0) (by decide +kernel) ?_
  refine lv_if_ne (tgt := 413) hx hb dL_crossings_123 (by decide) (fun h => absurd h (by decide +kernel)) (fun _ => ?_)
  refine lv_aload_n hx hb dL_crossings_126 rfl (lv_at hl 0 rfl) ?_
  refine cx0 (st1 := [.int (fNd (fnL L0))]) (va_runV (As := []) (rest := []) ⟨hx, hb, hml, hown, hts⟩ (CX_needed_ok l G hX hR (by decide) ) (cwV 0 hts gL_crossings_X5_needed rfl rfl rfl (by decide +kernel) ⟨Nat.le_of_ble_eq_true rfl, Nat.le_of_ble_eq_true rfl⟩) (PJ.preV hE hJ.jx (xs_recv hE.1 hX (P_pre hP)) ⟨P_pre hP, D_tr (D_pre hD)⟩) rfl rfl hl.1 rfl (lv_room (Nat.le_of_ble_eq_true rfl)) dL_crossings_127 ⟨Nat.le_of_ble_eq_true rfl, Nat.le_of_ble_eq_true rfl⟩) hP hD hS hJ0 hAl rfl (fun WC H locs hX hP hD hS hJ => ?_)
  refine tI (y := nI 0) (by decide +kernel) ?_
  refine lv_if_ne (tgt := 413) hx hb dL_crossings_130 (by decide) (fun h => absurd h (by decide +kernel)) (fun _ => ?_)
  refine lv_aload_n hx hb dL_crossings_133 rfl (lv_at hl 0 rfl) ?_
  refine lv_iconst (v := nI 0) hx hb dL_crossings_134 (by decide +kernel) ?_
  refine cx0 (st1 := [.int (fWl (fnL L0) 0)]) (va_runV (As := [.int (nI 0)]) (rest := []) ⟨hx, hb, hml, hown, hts⟩ (CX_ifLoaded_ok l G hX hR (by decide) 0 (by decide +kernel)) (cwV 1 hts gL_crossings_X5_ifLoaded rfl rfl rfl (by decide +kernel) ⟨Nat.le_of_ble_eq_true rfl, Nat.le_of_ble_eq_true rfl⟩) (PJ.preV hE hJ.jx (xs_recv hE.1 hX (P_pre hP)) ⟨P_pre hP, D_tr (D_pre hD)⟩) rfl rfl hl.1 rfl (lv_room (Nat.le_of_ble_eq_true rfl)) dL_crossings_135 ⟨Nat.le_of_ble_eq_true rfl, Nat.le_of_ble_eq_true rfl⟩) hP hD hS hJ0 hAl rfl (fun WC H locs hX hP hD hS hJ => ?_)
  refine tI (y := (-1)) (by decide +kernel) ?_
  refine lv_iconst (v := -1) hx hb dL_crossings_138 (by decide +kernel) ?_
  refine lv_icmp_ne (tgt := 413) hx hb dL_crossings_139 (by decide) (fun h => absurd h (by decide +kernel)) (fun _ => ?_)
  refine lv_aload_n hx hb dL_crossings_142 rfl (lv_at hl 0 rfl) ?_
  refine lv_iconst (v := nI 0) hx hb dL_crossings_143 (by decide +kernel) ?_
  refine cx0 (st1 := [.int (fLs (fnL L0) 0)]) (va_runV (As := [.int (nI 0)]) (rest := []) ⟨hx, hb, hml, hown, hts⟩ (CX_leastList_ok l G hX hR (by decide) 0 (by decide +kernel)) (cwV 1 hts gL_crossings_X5_leastList rfl rfl rfl (by decide +kernel) ⟨Nat.le_of_ble_eq_true rfl, Nat.le_of_ble_eq_true rfl⟩) (PJ.preV hE hJ.jx (xs_recv hE.1 hX (P_pre hP)) ⟨P_pre hP, D_tr (D_pre hD)⟩) rfl rfl hl.1 rfl (lv_room (Nat.le_of_ble_eq_true rfl)) dL_crossings_144 ⟨Nat.le_of_ble_eq_true rfl, Nat.le_of_ble_eq_true rfl⟩) hP hD hS hJ0 hAl rfl (fun WC H locs hX hP hD hS hJ => ?_)
  refine tI (y := nI 0) (by decide +kernel) ?_
  refine lv_if_ne (tgt := 413) hx hb dL_crossings_147 (by decide) (fun h => absurd h (by decide +kernel)) (fun _ => ?_)
  refine lv_aload_n hx hb dL_crossings_150 rfl (lv_at hl 0 rfl) ?_
  refine lv_iconst (v := nI 1) hx hb dL_crossings_151 (by decide +kernel) ?_
  refine cx0 (st1 := [.int (fLs (fnL L0) 1)]) (va_runV (As := [.int (nI 1)]) (rest := []) ⟨hx, hb, hml, hown, hts⟩ (CX_leastList_ok l G hX hR (by decide) 1 (by decide +kernel)) (cwV 1 hts gL_crossings_X5_leastList rfl rfl rfl (by decide +kernel) ⟨Nat.le_of_ble_eq_true rfl, Nat.le_of_ble_eq_true rfl⟩) (PJ.preV hE hJ.jx (xs_recv hE.1 hX (P_pre hP)) ⟨P_pre hP, D_tr (D_pre hD)⟩) rfl rfl hl.1 rfl (lv_room (Nat.le_of_ble_eq_true rfl)) dL_crossings_152 ⟨Nat.le_of_ble_eq_true rfl, Nat.le_of_ble_eq_true rfl⟩) hP hD hS hJ0 hAl rfl (fun WC H locs hX hP hD hS hJ => ?_)
  refine tI (y := (-1)) (by decide +kernel) ?_
  refine lv_iconst (v := -1) hx hb dL_crossings_155 (by decide +kernel) ?_
  refine lv_icmp_ne (tgt := 413) hx hb dL_crossings_156 (by decide) (fun h => absurd h (by decide +kernel)) (fun _ => ?_)
  refine lv_aload_n hx hb dL_crossings_159 rfl (lv_at hl 0 rfl) ?_
  refine cx0 (st1 := [.float (fWs (fnL L0))]) (va_runV (As := []) (rest := []) ⟨hx, hb, hml, hown, hts⟩ (CX_wornShare l G hX hR (by decide) ) (cwV 0 hts gL_crossings_X5_wornShare rfl rfl rfl (by decide +kernel) ⟨Nat.le_of_ble_eq_true rfl, Nat.le_of_ble_eq_true rfl⟩) (PJ.preV hE hJ.jx (xs_recv hE.1 hX (P_pre hP)) ⟨P_pre hP, D_tr (D_pre hD)⟩) rfl rfl hl.1 rfl (lv_room (Nat.le_of_ble_eq_true rfl)) dL_crossings_160 ⟨Nat.le_of_ble_eq_true rfl, Nat.le_of_ble_eq_true rfl⟩) hP hD hS hJ0 hAl rfl (fun WC H locs hX hP hD hS hJ => ?_)
  refine lv_fconst0 hx hb dL_crossings_163 ?_
  refine lv_fcmp hx hb dL_crossings_164 ?_
  refine tI (y := nI 0) (by decide +kernel) ?_
  refine lv_if_ne (tgt := 413) hx hb dL_crossings_165 (by decide) (fun h => absurd h (by decide +kernel)) (fun _ => ?_)
  refine lv_aload_n hx hb dL_crossings_168 rfl (lv_at hl 0 rfl) ?_
  refine cx0 (st1 := [.double (fCs (fnL L0))]) (va_runV (As := []) (rest := []) ⟨hx, hb, hml, hown, hts⟩ (CX_carriedShare l G hX hR (by decide) ) (cwV 0 hts gL_crossings_X5_carriedShare rfl rfl rfl (by decide +kernel) ⟨Nat.le_of_ble_eq_true rfl, Nat.le_of_ble_eq_true rfl⟩) (PJ.preV hE hJ.jx (xs_recv hE.1 hX (P_pre hP)) ⟨P_pre hP, D_tr (D_pre hD)⟩) rfl rfl hl.1 rfl (lv_room (Nat.le_of_ble_eq_true rfl)) dL_crossings_169 ⟨Nat.le_of_ble_eq_true rfl, Nat.le_of_ble_eq_true rfl⟩) hP hD hS hJ0 hAl rfl (fun WC H locs hX hP hD hS hJ => ?_)
  refine lv_dconst1 hx hb dL_crossings_172 ?_
  refine lv_dcmp hx hb dL_crossings_173 ?_
  refine tI (y := nI 0) (by decide +kernel) ?_
  refine lv_if_ne (tgt := 413) hx hb dL_crossings_174 (by decide) (fun h => absurd h (by decide +kernel)) (fun _ => ?_)
  refine lv_aload_n hx hb dL_crossings_177 rfl (lv_at hl 0 rfl) ?_
  refine cxc (st1 := [.int (nI 1)]) (va_runS (As := [.ref q0]) (rest := []) ⟨hx, hb, hml, hown, hts⟩ (K_refused l hlt G hX hR (by decide)) (va_cwS 1 hts gL_crossings_L_refused rfl rfl rfl (by decide +kernel) ⟨Nat.le_of_ble_eq_true rfl, Nat.le_of_ble_eq_true rfl⟩) (PK.preS hE hJ ⟨P_pre hP, D_al hAl (D_pre hD)⟩) rfl rfl hl.1 rfl (lv_room (Nat.le_of_ble_eq_true rfl)) dL_crossings_178 ⟨Nat.le_of_ble_eq_true rfl, Nat.le_of_ble_eq_true rfl⟩) hP hD hS hJ0 hAl rfl (fun WC H locs hX hP hD hS hJ => ?_)
  refine lv_if_eq (tgt := 413) hx hb dL_crossings_181 (by decide) (fun h => absurd h (by decide +kernel)) (fun _ => ?_)
  refine lv_aload_n hx hb dL_crossings_184 rfl (lv_at hl 0 rfl) ?_
  refine cx0 (st1 := [.int (nI (fHrs (fnL L0)))]) (va_runV (As := []) (rest := []) ⟨hx, hb, hml, hown, hts⟩ (CX_cross_ok l G hX hR (by decide) (okf_cro hR.1).1 (by decide +kernel)) (cwV 0 hts gL_crossings_X5_cross rfl rfl rfl (by decide +kernel) ⟨Nat.le_of_ble_eq_true rfl, Nat.le_of_ble_eq_true rfl⟩) (PJ.preV hE hJ.jx (xs_recv hE.1 hX (P_pre hP)) ⟨P_pre hP, D_tr (D_pre hD)⟩) rfl rfl hl.1 rfl (lv_room (Nat.le_of_ble_eq_true rfl)) dL_crossings_185 ⟨Nat.le_of_ble_eq_true rfl, Nat.le_of_ble_eq_true rfl⟩) hP hD hS hJ0 hAl rfl (fun WC H locs hX hP hD hS hJ => ?_)
  have hR := PR_sav (B' := 10000) (f' := fCrs (fnL L0)) (by decide) hR (okf_mono (by decide) (okf_crs (by decide) hR.1))
  rw [cr_e0] at hX hR
  replace hX : XS G q0 (fnL cr_L1) (fnL L0) (rgS (fun _ => fnL L0) 0 (fnL L0)) 0 1 0 (fnL T0) (nI 0) WC := hX
  replace hR : PR 10000 (fnL cr_L1) (fnL L0) (rgS (fun _ => fnL L0) 0 (fnL L0)) 0 1 0 (fnL T0) (nI 0) := hR
  obtain ⟨ff1, hff1⟩ : ∃ F, F = rgS (fun _ => fnL L0) 0 (fnL L0) := ⟨_, rfl⟩
  rw [← hff1] at hX hR
  refine tI (y := nI 1) (by decide +kernel) ?_
  refine lv_iconst (v := nI 1) hx hb dL_crossings_188 (by decide +kernel) ?_
  refine lv_icmp_ne (tgt := 413) hx hb dL_crossings_189 (by decide) (fun h => absurd h (by decide +kernel)) (fun _ => ?_)
  refine lv_aload_n hx hb dL_crossings_192 rfl (lv_at hl 0 rfl) ?_
  refine lv_iconst (v := nI 1) hx hb dL_crossings_193 (by decide +kernel) ?_
  refine cx0 (st1 := [.int (fCnt (fnL cr_L1) 1 1)]) (va_runV (As := [.int (nI 1)]) (rest := []) ⟨hx, hb, hml, hown, hts⟩ (CX_count_ok l G hX hR (by decide) 1 (by decide +kernel)) (cwV 1 hts gL_crossings_X5_count rfl rfl rfl (by decide +kernel) ⟨Nat.le_of_ble_eq_true rfl, Nat.le_of_ble_eq_true rfl⟩) (PJ.preV hE hJ.jx (xs_recv hE.1 hX (P_pre hP)) ⟨P_pre hP, D_tr (D_pre hD)⟩) rfl rfl hl.1 rfl (lv_room (Nat.le_of_ble_eq_true rfl)) dL_crossings_194 ⟨Nat.le_of_ble_eq_true rfl, Nat.le_of_ble_eq_true rfl⟩) hP hD hS hJ0 hAl rfl (fun WC H locs hX hP hD hS hJ => ?_)
  refine tI (y := nI 1) (by decide +kernel) ?_
  refine lv_iconst (v := nI 1) hx hb dL_crossings_197 (by decide +kernel) ?_
  refine lv_icmp_ne (tgt := 413) hx hb dL_crossings_198 (by decide) (fun h => absurd h (by decide +kernel)) (fun _ => ?_)
  refine lv_aload_n hx hb dL_crossings_201 rfl (lv_at hl 0 rfl) ?_
  refine lv_bipush (v := nI 6) hx hb dL_crossings_202 (by decide +kernel) ?_
  refine cx0 (st1 := [.int (fCnt (fnL cr_L1) 1 6)]) (va_runV (As := [.int (nI 6)]) (rest := []) ⟨hx, hb, hml, hown, hts⟩ (CX_count_ok l G hX hR (by decide) 6 (by decide +kernel)) (cwV 1 hts gL_crossings_X5_count rfl rfl rfl (by decide +kernel) ⟨Nat.le_of_ble_eq_true rfl, Nat.le_of_ble_eq_true rfl⟩) (PJ.preV hE hJ.jx (xs_recv hE.1 hX (P_pre hP)) ⟨P_pre hP, D_tr (D_pre hD)⟩) rfl rfl hl.1 rfl (lv_room (Nat.le_of_ble_eq_true rfl)) dL_crossings_204 ⟨Nat.le_of_ble_eq_true rfl, Nat.le_of_ble_eq_true rfl⟩) hP hD hS hJ0 hAl rfl (fun WC H locs hX hP hD hS hJ => ?_)
  refine tI (y := nI 220) (by decide +kernel) ?_
  refine lv_sipush (v := nI 220) hx hb dL_crossings_207 (by decide +kernel) ?_
  refine lv_icmp_ne (tgt := 413) hx hb dL_crossings_210 (by decide) (fun h => absurd h (by decide +kernel)) (fun _ => ?_)
  refine lv_aload_n hx hb dL_crossings_213 rfl (lv_at hl 0 rfl) ?_
  refine lv_iconst (v := nI 5) hx hb dL_crossings_214 (by decide +kernel) ?_
  refine cx0 (st1 := [.int (fCnt (fnL cr_L1) 1 5)]) (va_runV (As := [.int (nI 5)]) (rest := []) ⟨hx, hb, hml, hown, hts⟩ (CX_count_ok l G hX hR (by decide) 5 (by decide +kernel)) (cwV 1 hts gL_crossings_X5_count rfl rfl rfl (by decide +kernel) ⟨Nat.le_of_ble_eq_true rfl, Nat.le_of_ble_eq_true rfl⟩) (PJ.preV hE hJ.jx (xs_recv hE.1 hX (P_pre hP)) ⟨P_pre hP, D_tr (D_pre hD)⟩) rfl rfl hl.1 rfl (lv_room (Nat.le_of_ble_eq_true rfl)) dL_crossings_215 ⟨Nat.le_of_ble_eq_true rfl, Nat.le_of_ble_eq_true rfl⟩) hP hD hS hJ0 hAl rfl (fun WC H locs hX hP hD hS hJ => ?_)
  refine tI (y := nI 0) (by decide +kernel) ?_
  refine lv_if_ne (tgt := 413) hx hb dL_crossings_218 (by decide) (fun h => absurd h (by decide +kernel)) (fun _ => ?_)
  exact cr_s1 hlt hL9 hX hR hP hD hS hl

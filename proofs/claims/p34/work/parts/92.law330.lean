theorem g_sav {fs : Nat → Nat → Int32} {f f' : Nat → Int32} {ff : Nat → Nat → Int32} {old sz acts : Nat} {g : Nat → Int64} (hrg : RG fs f ff old sz acts) (hg : ∀ i, i < acts → g i = seenF (fs i)) (hgA : g acts = seenF f) : ∀ i, i < acts + 1 → g i = seenF (fsN fs (acts + 1) f' i) := by
  intro i hi
  rw [fsN_n (by omega)]
  by_cases h : i = acts
  · subst h
    rw [hgA, hrg.1]
  · exact hg i (by omega)
theorem ge_rg {f : Nat → Int32} {j m : Nat} (h : rg f j m) (hm : m < 2147483648) : 0 ≤ f j := nI_ge7 h.1 (by have := h.2; omega)
theorem ge_arr {B b : Nat} {f : Nat → Int32} (h : Okf B f) (hb : b < 2) : 0 ≤ f (57 + (11 * b)) + nI 1 := by
  have h1 := (h.2.2.2.1 b hb).1
  rw [h1.1, nI_add]
  have := h1.2
  exact nI_pos' (by omega)
theorem ge_lod {B a : Nat} {f : Nat → Int32} (h : Okf B f) (hc : fCan f a = true) : 0 ≤ f (fAt f + 1) := by
  have h5 := h.2.2.1.2.2.2.2.1
  have h6 : 0 < nn f (57 + (11 * nn f 51)) ∧ nn f (79 + (9 * a)) < 4 := by simpa [fCan] using hc
  have h7 := (h.2.2.2.1 (nn f 51) (by have := h5.2; omega)).2 0 h6.1
  exact ge_rg h7 (by decide)
theorem ge_unl (f : Nat → Int32) : 0 ≤ unC f := by
  obtain ⟨n, h1, h2⟩ := unC_b f
  exact nI_ge7 h2 (by omega)
theorem ge_crs (f : Nat → Int32) : 0 ≤ nI (fHrs f) := nI_pos' (by unfold fHrs fSl; omega)
theorem ge_pas {B h : Nat} {f : Nat → Int32} (ho : Okf B f) (hB : B < 900000000) (hh : h ≤ 100) : 0 ≤ f 50 + nI h := by
  have h1 := ho.2.2.1.2.2.2.1
  rw [h1.1, nI_add]
  have := h1.2
  exact nI_pos' (by omega)
theorem ge_drw {B d : Nat} {f : Nat → Int32} (ho : Okf B f) (h3 : d ≤ nn f 49) : 0 ≤ f 49 - nI d := by
  have h1 := ho.2.2.1.2.2.1
  rw [h1.1, pk_sub h3]
  have := h1.2
  exact nI_pos' (by omega)
theorem ge_cur {B h : Nat} {f : Nat → Int32} (ho : Okf B f) (hh : h < 24) : 0 ≤ f (3 + h) := ge_rg (ho.1 h hh) (by decide)
theorem ge_set {B s0 : Nat} {f : Nat → Int32} (ho : Okf B f) (hs : s0 < 3) : 0 ≤ f s0 := by
  have h6 := ho.2.2.2.2.2
  rcases (show s0 = 0 ∨ s0 = 1 ∨ s0 = 2 by omega) with rfl | rfl | rfl
  · exact ge_rg h6.1 (by decide)
  · exact ge_rg h6.2.1 (by decide)
  · exact ge_rg h6.2.2.1 (by decide)
theorem ge_bck {B : Nat} {f : Nat → Int32} (ho : Okf B f) (hB : B < 900000000) : 0 ≤ f 50 := ge_rg ho.2.2.1.2.2.2.1 (by omega)
theorem no_in {lo v hi : Nat} (h1 : lo < 2147483648) (h2 : v < 2147483648) (h3 : hi < 2147483648) (h : ¬ (lo ≤ v ∧ v ≤ hi)) : ¬ (nI lo ≤ nI v ∧ nI v ≤ nI hi) := fun q => h ((inN_iff h1 h2 h3).mp q)
theorem is_in {lo v hi : Nat} (h1 : lo < 2147483648) (h2 : v < 2147483648) (h3 : hi < 2147483648) (h : lo ≤ v ∧ v ≤ hi) : nI lo ≤ nI v ∧ nI v ≤ nI hi := (inN_iff h1 h2 h3).mpr h
set_option maxHeartbeats 8000000 in
set_option maxRecDepth 100000 in
theorem l330_ok {p : Program} {l : Launch} {e : Env} {s : State} {m : MethodId} {below : List Frame} {meth : Method} {c : Code} {b L : Nat} {xs : Nat → Int32} {G : eG} {cJ : ClassId} {Q : State → Prop} {fe q B k acts : Nat} {fs : Nat → Nat → Int32} {f : Nat → Int32} {ff : Nat → Nat → Int32} {old sz : Nat} {g : Nat → Int64} {WC : va_W} {H : Heap} {locs : List Loc} {ls : Array Slot} {kept : Int64} {cells slots : Nat} (hlt : l.stackTraces = false) (hL : LX p s m c b L xs G cJ) (hk : k < 28) (hacts : acts ≤ k) (hB : B + 10000 < 700000000) (hc1 : cells + 1 ≤ 600130) (hs1 : slots + 6 ≤ 7301080) (nx : ∀ (acts : Nat) (fs : Nat → Nat → Int32) (f : Nat → Int32) (ff : Nat → Nat → Int32) (old sz : Nat) (g : Nat → Int64) (WC : va_W) (H : Heap) (locs : List Loc) (ls : Array Slot), acts ≤ k + 1 → RG fs f ff old sz acts → (∀ i, i < acts → g i = seenF (fs i)) → LD s G cJ fe q (B + 10000) f ff old sz g WC H locs → lv_has ls 14 [(6, .int (nI (k + 1))), (3, .int (nI acts)), (4, .long kept), (2, .ref q), (1, .ref fe), (0, .ref b)] → W p l e room_1 s m #[Value.ref b] below meth c H locs (cells + 1) (slots + 6) Q (F0 m 84 ls [])) {v : Int32} (hv : 0 ≤ v) (hrg : RG fs f ff old sz (acts + 1)) (hg : ∀ i, i < acts + 1 → g i = seenF (fs i)) (hD : LD s G cJ fe q (B + 10000) f ff old sz g WC H locs) {u : Nat} (hl : lv_has ls 14 [(9, .int (nI u)), (6, .int (nI k)), (3, .int (nI acts)), (4, .long kept), (2, .ref q), (1, .ref fe), (0, .ref b)]) : W p l e room_1 s m #[Value.ref b] below meth c H locs cells slots Q (F0 m 330 ls [.int v]) := by
  obtain ⟨hx, hb, hml, hown, hts, hE, hJ0, hKJ, hXs, hbl, hLL⟩ := hL
  have hAl : ∀ q, AA s q → s.heap.size ≤ q := fun _ h => h
  obtain ⟨hX, hR, hP, hD, hS⟩ := hD
  have hJ : JB s.heap.size s _ := hJ0.S hAl hS
  refine lv_istore (lv' := [(12, .int v), (9, .int (nI u)), (6, .int (nI k)), (3, .int (nI acts)), (4, .long kept), (2, .ref q), (1, .ref fe), (0, .ref b)]) hx hb dL_law_330 hl (by decide) rfl (fun ls hl => ?_)
  refine lv_iload hx hb dL_law_332 (lv_at hl 0 rfl) ?_
  refine lv_if_ge (tgt := 341) hx hb dL_law_334 (by decide) (fun _ => ?_) (fun h => absurd hv h)
  refine lv_iconst (v := nI 0) hx hb dL_law_341 (by decide +kernel) ?_
  refine lv_istore (lv' := [(13, .int (nI 0)), (12, .int v), (9, .int (nI u)), (6, .int (nI k)), (3, .int (nI acts)), (4, .long kept), (2, .ref q), (1, .ref fe), (0, .ref b)]) hx hb dL_law_342 hl (by decide) rfl (fun ls hl => ?_)
  refine lv_iload hx hb dL_law_344 (lv_at hl 0 rfl) ?_
  refine lv_if_eq (tgt := 373) hx hb dL_law_346 (by decide) (fun _ => ?_) (fun h => absurd h (by decide +kernel))
  refine lv_iload_n hx hb dL_law_373 rfl (lv_at hl 4 rfl) ?_
  refine lv_iload hx hb dL_law_374 (lv_at hl 0 rfl) ?_
  refine lv_if_eq (tgt := 383) hx hb dL_law_376 (by decide) (fun _ => ?_) (fun h => absurd h (by decide +kernel))
  refine lv_iconst (v := nI 1) hx hb dL_law_383 (by decide +kernel) ?_
  refine iaddN hx hb dL_law_384 ?_
  refine lv_istore_n (lv' := [(3, .int (nI (acts + 1))), (13, .int (nI 0)), (12, .int v), (9, .int (nI u)), (6, .int (nI k)), (4, .long kept), (2, .ref q), (1, .ref fe), (0, .ref b)]) hx hb dL_law_385 rfl hl (by decide) rfl (fun ls hl => ?_)
  refine lv_iinc (v := nI (k + 1)) (lv' := [(6, .int (nI (k + 1))), (3, .int (nI (acts + 1))), (13, .int (nI 0)), (12, .int v), (9, .int (nI u)), (4, .long kept), (2, .ref q), (1, .ref fe), (0, .ref b)]) hx hb dL_law_386 hl (k := 4) rfl (nI_inc1 _) (by decide) rfl (fun ls hl => ?_)
  refine lv_goto (tgt := 84) hx hb dL_law_389 (by decide) ?_
  refine W.widen (k := cells + 1) (n := slots + 6) (by omega) (by omega) ?_
  exact nx (acts + 1) fs f ff old sz g WC H locs ls (by omega) hrg hg ⟨hX, hR, hP, hD, hS⟩ (lv_sub hl [0, 1, 5, 6, 7, 8] rfl)
set_option maxHeartbeats 8000000 in
set_option maxRecDepth 100000 in
theorem l330_thr {p : Program} {l : Launch} {e : Env} {s : State} {m : MethodId} {below : List Frame} {meth : Method} {c : Code} {b L : Nat} {xs : Nat → Int32} {G : eG} {cJ : ClassId} {Q : State → Prop} {fe q B k acts : Nat} {fs : Nat → Nat → Int32} {f : Nat → Int32} {ff : Nat → Nat → Int32} {old sz : Nat} {g : Nat → Int64} {WC : va_W} {H : Heap} {locs : List Loc} {ls : Array Slot} {kept : Int64} {cells slots : Nat} (hlt : l.stackTraces = false) (hL : LX p s m c b L xs G cJ) (hk : k < 28) (hacts : acts ≤ k) (hB : B + 10000 < 700000000) (hc1 : cells + 1 ≤ 600130) (hs1 : slots + 6 ≤ 7301080) (nx : ∀ (acts : Nat) (fs : Nat → Nat → Int32) (f : Nat → Int32) (ff : Nat → Nat → Int32) (old sz : Nat) (g : Nat → Int64) (WC : va_W) (H : Heap) (locs : List Loc) (ls : Array Slot), acts ≤ k + 1 → RG fs f ff old sz acts → (∀ i, i < acts → g i = seenF (fs i)) → LD s G cJ fe q (B + 10000) f ff old sz g WC H locs → lv_has ls 14 [(6, .int (nI (k + 1))), (3, .int (nI acts)), (4, .long kept), (2, .ref q), (1, .ref fe), (0, .ref b)] → W p l e room_1 s m #[Value.ref b] below meth c H locs (cells + 1) (slots + 6) Q (F0 m 84 ls [])) {v : Int32} (hv : v < 0) (hrg : RG fs f ff old sz acts) (hg : ∀ i, i < acts → g i = seenF (fs i)) (hgA : g acts = seenF f) (hD : LD s G cJ fe q B f ff old sz g WC H locs) (hl : lv_has ls 14 [(9, .int (nI sz)), (6, .int (nI k)), (3, .int (nI acts)), (4, .long kept), (2, .ref q), (1, .ref fe), (0, .ref b)]) : W p l e room_1 s m #[Value.ref b] below meth c H locs (cells + 1) (slots + 6) Q (F0 m 330 ls [.int v]) := by
  obtain ⟨hx, hb, hml, hown, hts, hE, hJ0, hKJ, hXs, hbl, hLL⟩ := hL
  have hAl : ∀ q, AA s q → s.heap.size ≤ q := fun _ h => h
  obtain ⟨hX, hR, hP, hD, hS⟩ := hD
  have hJ : JB s.heap.size s _ := hJ0.S hAl hS
  refine lv_istore (lv' := [(12, .int v), (9, .int (nI sz)), (6, .int (nI k)), (3, .int (nI acts)), (4, .long kept), (2, .ref q), (1, .ref fe), (0, .ref b)]) hx hb dL_law_330 hl (by decide) rfl (fun ls hl => ?_)
  refine lv_iload hx hb dL_law_332 (lv_at hl 0 rfl) ?_
  refine lv_if_ge (tgt := 341) hx hb dL_law_334 (by decide) (fun h => absurd h (Int32.not_le.mpr hv)) (fun _ => ?_)
  refine lv_iconst (v := nI 1) hx hb dL_law_337 (by decide +kernel) ?_
  refine lv_goto (tgt := 342) hx hb dL_law_338 (by decide) ?_
  refine lv_istore (lv' := [(13, .int (nI 1)), (12, .int v), (9, .int (nI sz)), (6, .int (nI k)), (3, .int (nI acts)), (4, .long kept), (2, .ref q), (1, .ref fe), (0, .ref b)]) hx hb dL_law_342 hl (by decide) rfl (fun ls hl => ?_)
  refine lv_iload hx hb dL_law_344 (lv_at hl 0 rfl) ?_
  refine lv_if_eq (tgt := 373) hx hb dL_law_346 (by decide) (fun h => absurd h (by decide +kernel)) (fun _ => ?_)
  refine lv_aload_n hx hb dL_law_349 rfl (lv_at hl 7 rfl) ?_
  refine lv_bipush (v := nI 13) hx hb dL_law_350 (by decide +kernel) ?_
  refine cx0 (st1 := [.int (fCnt f sz 13)]) (va_runV (As := [.int (nI 13)]) (rest := []) ⟨hx, hb, hml, hown, hts⟩ (CX_count_ok l G hX hR (by omega) 13 (by decide)) (cwV 1 hts gL_law_X5_count rfl rfl rfl (by decide +kernel) ⟨Nat.le_of_ble_eq_true rfl, Nat.le_of_ble_eq_true rfl⟩) (PJ.preV hE hJ.jx (xs_recv hE.1 hX (P_pre hP)) ⟨P_pre hP, D_tr (D_pre hD)⟩) rfl rfl hl.1 rfl (lv_room (Nat.le_of_ble_eq_true rfl)) dL_law_352 ⟨by show _ + 0 ≤ 600130; omega, by show _ + 0 ≤ 7301080; omega⟩) hP hD hS hJ0 hAl rfl (fun WC H locs hX hP hD hS hJ => ?_)
  refine tI (y := nI sz) rfl ?_
  refine lv_iload hx hb dL_law_355 (lv_at hl 2 rfl) ?_
  refine lv_icmp_ne (tgt := 371) hx hb dL_law_357 (by decide) (fun h => absurd rfl h) (fun _ => ?_)
  refine lv_aload_n hx hb dL_law_360 rfl (lv_at hl 7 rfl) ?_
  refine cx0 (st1 := [.long (seenF f)]) (va_runS (As := [.ref fe]) (rest := []) ⟨hx, hb, hml, hown, hts⟩ (K_seen l G hX hR (by omega)) (va_cwS 1 hts gL_law_L_seen rfl rfl rfl (by decide +kernel) ⟨Nat.le_of_ble_eq_true rfl, Nat.le_of_ble_eq_true rfl⟩) (PK.preS hE hJ ⟨P_pre hP, D_al hAl (D_pre hD)⟩) rfl rfl hl.1 rfl (lv_room (Nat.le_of_ble_eq_true rfl)) dL_law_361 ⟨by show _ + 0 ≤ 600130; omega, by show _ + 0 ≤ 7301080; omega⟩) hP hD hS hJ0 hAl rfl (fun WC H locs hX hP hD hS hJ => ?_)
  refine lv_aload_n hx hb dL_law_364 rfl (lv_at hl 6 rfl) ?_
  refine lv_iload_n hx hb dL_law_365 rfl (lv_at hl 4 rfl) ?_
  refine va_lald hx hb hKJ (P_perm List.perm_append_comm hP) 0 0 rfl rfl (vp_in_nI (n := acts) (N := 64) (by omega) (by decide)) dL_law_366 ?_
  refine tS (st' := [.long (seenF f), .long (seenF f)]) (by rw [nI_clamp (by omega), hgA]) ?_
  refine lv_lcmpE hx hb dL_law_367 ?_
  refine lv_if_eq (tgt := 373) hx hb dL_law_368 (by decide) (fun _ => ?_) (fun h => absurd h (by decide +kernel))
  refine lv_iload_n hx hb dL_law_373 rfl (lv_at hl 4 rfl) ?_
  refine lv_iload hx hb dL_law_374 (lv_at hl 0 rfl) ?_
  refine lv_if_eq (tgt := 383) hx hb dL_law_376 (by decide) (fun h => absurd h (by decide +kernel)) (fun _ => ?_)
  refine lv_iconst (v := nI 0) hx hb dL_law_379 (by decide +kernel) ?_
  refine lv_goto (tgt := 384) hx hb dL_law_380 (by decide) ?_
  refine iaddN hx hb dL_law_384 ?_
  refine lv_istore_n (lv' := [(3, .int (nI (acts + 0))), (13, .int (nI 1)), (12, .int v), (9, .int (nI sz)), (6, .int (nI k)), (4, .long kept), (2, .ref q), (1, .ref fe), (0, .ref b)]) hx hb dL_law_385 rfl hl (by decide) rfl (fun ls hl => ?_)
  refine lv_iinc (v := nI (k + 1)) (lv' := [(6, .int (nI (k + 1))), (3, .int (nI (acts + 0))), (13, .int (nI 1)), (12, .int v), (9, .int (nI sz)), (4, .long kept), (2, .ref q), (1, .ref fe), (0, .ref b)]) hx hb dL_law_386 hl (k := 4) rfl (nI_inc1 _) (by decide) rfl (fun ls hl => ?_)
  refine lv_goto (tgt := 84) hx hb dL_law_389 (by decide) ?_
  exact nx acts fs f ff old sz g WC H locs ls (by omega) hrg hg ⟨hX, PR_mono (by omega) hR, hP, hD, hS⟩ (lv_sub hl [0, 1, 5, 6, 7, 8] rfl)

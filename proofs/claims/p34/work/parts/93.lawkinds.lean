set_option maxHeartbeats 8000000 in
set_option maxRecDepth 100000 in
theorem kd_arrive {p : Program} {l : Launch} {e : Env} {s : State} {m : MethodId} {below : List Frame} {meth : Method} {c : Code} {b L : Nat} {xs : Nat → Int32} {G : eG} {cJ : ClassId} {Q : State → Prop} {fe q B k acts : Nat} {fs : Nat → Nat → Int32} {f : Nat → Int32} {ff : Nat → Nat → Int32} {old sz : Nat} {g : Nat → Int64} {WC : va_W} {H : Heap} {locs : List Loc} {ls : Array Slot} {kept : Int64} {cells slots : Nat} (hlt : l.stackTraces = false) (hL : LX p s m c b L xs G cJ) (hk : k < 28) (hacts : acts ≤ k) (hB : B + 10000 < 700000000) (hc1 : cells + 1 ≤ 600130) (hs1 : slots + 6 ≤ 7301080) (nx : ∀ (acts : Nat) (fs : Nat → Nat → Int32) (f : Nat → Int32) (ff : Nat → Nat → Int32) (old sz : Nat) (g : Nat → Int64) (WC : va_W) (H : Heap) (locs : List Loc) (ls : Array Slot), acts ≤ k + 1 → RG fs f ff old sz acts → (∀ i, i < acts → g i = seenF (fs i)) → LD s G cJ fe q (B + 10000) f ff old sz g WC H locs → lv_has ls 14 [(6, .int (nI (k + 1))), (3, .int (nI acts)), (4, .long kept), (2, .ref q), (1, .ref fe), (0, .ref b)] → W p l e room_1 s m #[Value.ref b] below meth c H locs (cells + 1) (slots + 6) Q (F0 m 84 ls [])) {a9 b9 r9 : Nat} {x : Int32} (ha : a9 < 3) (hb9 : b9 < 22) (hrg : RG fs f ff old sz acts) (hg : ∀ i, i < acts → g i = seenF (fs i)) (hgA : g acts = seenF f) (hD : LD s G cJ fe q B f ff old sz g WC H locs) (hl : lv_has ls 14 [(11, .int (nI b9)), (10, .int (nI a9)), (9, .int (nI sz)), (8, .int (nI r9)), (7, .int x), (6, .int (nI k)), (3, .int (nI acts)), (4, .long kept), (2, .ref q), (1, .ref fe), (0, .ref b)]) : W p l e room_1 s m #[Value.ref b] below meth c H locs cells slots Q (F0 m 151 ls []) := by
  have hL9 := hL
  obtain ⟨hx, hb, hml, hown, hts, hE, hJ0, hKJ, hXs, hbl, hLL⟩ := hL
  have hAl : ∀ q, AA s q → s.heap.size ≤ q := fun _ h => h
  obtain ⟨hX, hR, hP, hD, hS⟩ := hD
  have hJ : JB s.heap.size s _ := hJ0.S hAl hS
  refine lv_aload_n hx hb dL_law_151 rfl (lv_at hl 9 rfl) ?_
  refine lv_iconst (v := nI 0) hx hb dL_law_152 (by decide +kernel) ?_
  refine lv_iload hx hb dL_law_153 (lv_at hl 1 rfl) ?_
  refine lv_iload hx hb dL_law_155 (lv_at hl 0 rfl) ?_
  by_cases h1 : a9 < 2
  · skip
    by_cases h2 : 1 ≤ b9 ∧ b9 ≤ 20
    · skip
      by_cases h3 : nn f (57 + 11 * a9) < 10
      · skip
        refine cxc (st1 := [.int (f (57 + (11 * a9)) + nI 1)]) (vx_runSW (As := [.ref fe, .int (nI 0), .int (nI a9), .int (nI b9)]) (rest := []) ⟨hx, hb, hml, hown, hts⟩ (CC_arrive_ok l G hX hR (by omega) a9 b9 h1 h2.1 h2.2 h3) (vx_cwSW 4 hts gL_law_L_call rfl rfl rfl (by decide +kernel) ⟨Nat.le_of_ble_eq_true rfl, Nat.le_of_ble_eq_true rfl⟩) (PK.preS hE hJ ⟨P_pre hP, D_al hAl (D_pre hD)⟩) rfl rfl hl.1 rfl (lv_room (Nat.le_of_ble_eq_true rfl)) dL_law_157 ⟨by show cells + 0 ≤ 600130; omega, by show slots + 0 ≤ 7301080; omega⟩) hP hD hS hJ0 hAl rfl (fun WC H locs hX hP hD hS hJ => ?_)
        refine lv_goto (tgt := 330) hx hb dL_law_160 (by decide) ?_
        have hR2 := PR_sav (B' := B + 10000) (f' := fArr f a9 (nI b9)) (by omega) hR (okf_mono (by omega) (okf_arr hR.1 h1 h2.2 h3))
        exact l330_ok hlt hL9 hk hacts hB hc1 hs1 nx (ge_arr hR.1 h1) (RG_sav hR.2.2.2.1 hR.2.2.2.2.1 hrg) (g_sav hrg hg hgA) ⟨hX, hR2, hP, hD, hS⟩ (lv_sub hl [2, 5, 6, 7, 8, 9, 10] rfl)
      · skip
        refine cxc (st1 := [.int (-13)]) (vx_runSW (As := [.ref fe, .int (nI 0), .int (nI a9), .int (nI b9)]) (rest := []) ⟨hx, hb, hml, hown, hts⟩ (CC_arrive_e3 l hlt G hX hR (by omega) a9 b9 h1 h2.1 h2.2 h3) (vx_cwSW 4 hts gL_law_L_call rfl rfl rfl (by decide +kernel) ⟨Nat.le_of_ble_eq_true rfl, Nat.le_of_ble_eq_true rfl⟩) (PK.preS hE hJ ⟨P_pre hP, D_al hAl (D_pre hD)⟩) rfl rfl hl.1 rfl (lv_room (Nat.le_of_ble_eq_true rfl)) dL_law_157 ⟨by show cells + 1 ≤ 600130; omega, by show slots + 6 ≤ 7301080; omega⟩) hP hD hS hJ0 hAl rfl (fun WC H locs hX hP hD hS hJ => ?_)
        refine lv_goto (tgt := 330) hx hb dL_law_160 (by decide) ?_
        exact l330_thr hlt hL9 hk hacts hB hc1 hs1 nx (by decide +kernel) hrg hg hgA ⟨hX, hR, hP, hD, hS⟩ (lv_sub hl [2, 5, 6, 7, 8, 9, 10] rfl)
    · skip
      refine cxc (st1 := [.int (-12)]) (vx_runSW (As := [.ref fe, .int (nI 0), .int (nI a9), .int (nI b9)]) (rest := []) ⟨hx, hb, hml, hown, hts⟩ (CC_arrive_e2 l hlt G hX hR (by omega) (nI a9) (nI b9) (is_in (by decide) (by omega) (by decide) (by omega)) (no_in (by decide) (by omega) (by decide) h2)) (vx_cwSW 4 hts gL_law_L_call rfl rfl rfl (by decide +kernel) ⟨Nat.le_of_ble_eq_true rfl, Nat.le_of_ble_eq_true rfl⟩) (PK.preS hE hJ ⟨P_pre hP, D_al hAl (D_pre hD)⟩) rfl rfl hl.1 rfl (lv_room (Nat.le_of_ble_eq_true rfl)) dL_law_157 ⟨by show cells + 1 ≤ 600130; omega, by show slots + 6 ≤ 7301080; omega⟩) hP hD hS hJ0 hAl rfl (fun WC H locs hX hP hD hS hJ => ?_)
      refine lv_goto (tgt := 330) hx hb dL_law_160 (by decide) ?_
      exact l330_thr hlt hL9 hk hacts hB hc1 hs1 nx (by decide +kernel) hrg hg hgA ⟨hX, hR, hP, hD, hS⟩ (lv_sub hl [2, 5, 6, 7, 8, 9, 10] rfl)
  · skip
    refine cxc (st1 := [.int (-11)]) (vx_runSW (As := [.ref fe, .int (nI 0), .int (nI a9), .int (nI b9)]) (rest := []) ⟨hx, hb, hml, hown, hts⟩ (CC_arrive_e1 l hlt G hX hR (by omega) (nI a9) (nI b9) (no_in (by decide) (by omega) (by decide) (by omega))) (vx_cwSW 4 hts gL_law_L_call rfl rfl rfl (by decide +kernel) ⟨Nat.le_of_ble_eq_true rfl, Nat.le_of_ble_eq_true rfl⟩) (PK.preS hE hJ ⟨P_pre hP, D_al hAl (D_pre hD)⟩) rfl rfl hl.1 rfl (lv_room (Nat.le_of_ble_eq_true rfl)) dL_law_157 ⟨by show cells + 1 ≤ 600130; omega, by show slots + 6 ≤ 7301080; omega⟩) hP hD hS hJ0 hAl rfl (fun WC H locs hX hP hD hS hJ => ?_)
    refine lv_goto (tgt := 330) hx hb dL_law_160 (by decide) ?_
    exact l330_thr hlt hL9 hk hacts hB hc1 hs1 nx (by decide +kernel) hrg hg hgA ⟨hX, hR, hP, hD, hS⟩ (lv_sub hl [2, 5, 6, 7, 8, 9, 10] rfl)
set_option maxHeartbeats 8000000 in
set_option maxRecDepth 100000 in
theorem kd_load {p : Program} {l : Launch} {e : Env} {s : State} {m : MethodId} {below : List Frame} {meth : Method} {c : Code} {b L : Nat} {xs : Nat → Int32} {G : eG} {cJ : ClassId} {Q : State → Prop} {fe q B k acts : Nat} {fs : Nat → Nat → Int32} {f : Nat → Int32} {ff : Nat → Nat → Int32} {old sz : Nat} {g : Nat → Int64} {WC : va_W} {H : Heap} {locs : List Loc} {ls : Array Slot} {kept : Int64} {cells slots : Nat} (hlt : l.stackTraces = false) (hL : LX p s m c b L xs G cJ) (hk : k < 28) (hacts : acts ≤ k) (hB : B + 10000 < 700000000) (hc1 : cells + 1 ≤ 600130) (hs1 : slots + 6 ≤ 7301080) (nx : ∀ (acts : Nat) (fs : Nat → Nat → Int32) (f : Nat → Int32) (ff : Nat → Nat → Int32) (old sz : Nat) (g : Nat → Int64) (WC : va_W) (H : Heap) (locs : List Loc) (ls : Array Slot), acts ≤ k + 1 → RG fs f ff old sz acts → (∀ i, i < acts → g i = seenF (fs i)) → LD s G cJ fe q (B + 10000) f ff old sz g WC H locs → lv_has ls 14 [(6, .int (nI (k + 1))), (3, .int (nI acts)), (4, .long kept), (2, .ref q), (1, .ref fe), (0, .ref b)] → W p l e room_1 s m #[Value.ref b] below meth c H locs (cells + 1) (slots + 6) Q (F0 m 84 ls [])) {a9 b9 r9 : Nat} {x : Int32} (ha : a9 < 3) (hb9 : b9 < 22) (hrg : RG fs f ff old sz acts) (hg : ∀ i, i < acts → g i = seenF (fs i)) (hgA : g acts = seenF f) (hD : LD s G cJ fe q B f ff old sz g WC H locs) (hl : lv_has ls 14 [(11, .int (nI b9)), (10, .int (nI a9)), (9, .int (nI sz)), (8, .int (nI r9)), (7, .int x), (6, .int (nI k)), (3, .int (nI acts)), (4, .long kept), (2, .ref q), (1, .ref fe), (0, .ref b)]) : W p l e room_1 s m #[Value.ref b] below meth c H locs cells slots Q (F0 m 170 ls []) := by
  have hL9 := hL
  obtain ⟨hx, hb, hml, hown, hts, hE, hJ0, hKJ, hXs, hbl, hLL⟩ := hL
  have hAl : ∀ q, AA s q → s.heap.size ≤ q := fun _ h => h
  obtain ⟨hX, hR, hP, hD, hS⟩ := hD
  have hJ : JB s.heap.size s _ := hJ0.S hAl hS
  refine lv_aload_n hx hb dL_law_170 rfl (lv_at hl 9 rfl) ?_
  refine lv_iconst (v := nI 1) hx hb dL_law_171 (by decide +kernel) ?_
  refine lv_iload hx hb dL_law_172 (lv_at hl 1 rfl) ?_
  refine lv_iconst (v := nI 0) hx hb dL_law_174 (by decide +kernel) ?_
  by_cases h1 : a9 < 2
  · skip
    by_cases h3 : fCan f a9 = true
    · skip
      refine cxc (st1 := [.int (f (fAt f + 1))]) (vx_runSW (As := [.ref fe, .int (nI 1), .int (nI a9), .int (nI 0)]) (rest := []) ⟨hx, hb, hml, hown, hts⟩ (CC_load_ok l G hX hR (by omega) a9 h1 h3 (nI 0)) (vx_cwSW 4 hts gL_law_L_call rfl rfl rfl (by decide +kernel) ⟨Nat.le_of_ble_eq_true rfl, Nat.le_of_ble_eq_true rfl⟩) (PK.preS hE hJ ⟨P_pre hP, D_al hAl (D_pre hD)⟩) rfl rfl hl.1 rfl (lv_room (Nat.le_of_ble_eq_true rfl)) dL_law_175 ⟨by show cells + 0 ≤ 600130; omega, by show slots + 0 ≤ 7301080; omega⟩) hP hD hS hJ0 hAl rfl (fun WC H locs hX hP hD hS hJ => ?_)
      refine lv_goto (tgt := 330) hx hb dL_law_178 (by decide) ?_
      have hR2 := PR_sav (B' := B + 10000) (f' := fLod f a9) (by omega) hR (okf_mono (by omega) (okf_lod hR.1 h1 h3))
      exact l330_ok hlt hL9 hk hacts hB hc1 hs1 nx (ge_lod hR.1 h3) (RG_sav hR.2.2.2.1 hR.2.2.2.2.1 hrg) (g_sav hrg hg hgA) ⟨hX, hR2, hP, hD, hS⟩ (lv_sub hl [2, 5, 6, 7, 8, 9, 10] rfl)
    · skip
      refine cxc (st1 := [.int (-13)]) (vx_runSW (As := [.ref fe, .int (nI 1), .int (nI a9), .int (nI 0)]) (rest := []) ⟨hx, hb, hml, hown, hts⟩ (CC_load_e2 l hlt G hX hR (by omega) a9 h1 h3 (nI 0)) (vx_cwSW 4 hts gL_law_L_call rfl rfl rfl (by decide +kernel) ⟨Nat.le_of_ble_eq_true rfl, Nat.le_of_ble_eq_true rfl⟩) (PK.preS hE hJ ⟨P_pre hP, D_al hAl (D_pre hD)⟩) rfl rfl hl.1 rfl (lv_room (Nat.le_of_ble_eq_true rfl)) dL_law_175 ⟨by show cells + 1 ≤ 600130; omega, by show slots + 6 ≤ 7301080; omega⟩) hP hD hS hJ0 hAl rfl (fun WC H locs hX hP hD hS hJ => ?_)
      refine lv_goto (tgt := 330) hx hb dL_law_178 (by decide) ?_
      exact l330_thr hlt hL9 hk hacts hB hc1 hs1 nx (by decide +kernel) hrg hg hgA ⟨hX, hR, hP, hD, hS⟩ (lv_sub hl [2, 5, 6, 7, 8, 9, 10] rfl)
  · skip
    refine cxc (st1 := [.int (-11)]) (vx_runSW (As := [.ref fe, .int (nI 1), .int (nI a9), .int (nI 0)]) (rest := []) ⟨hx, hb, hml, hown, hts⟩ (CC_load_e1 l hlt G hX hR (by omega) (nI a9) (no_in (by decide) (by omega) (by decide) (by omega)) (nI 0)) (vx_cwSW 4 hts gL_law_L_call rfl rfl rfl (by decide +kernel) ⟨Nat.le_of_ble_eq_true rfl, Nat.le_of_ble_eq_true rfl⟩) (PK.preS hE hJ ⟨P_pre hP, D_al hAl (D_pre hD)⟩) rfl rfl hl.1 rfl (lv_room (Nat.le_of_ble_eq_true rfl)) dL_law_175 ⟨by show cells + 1 ≤ 600130; omega, by show slots + 6 ≤ 7301080; omega⟩) hP hD hS hJ0 hAl rfl (fun WC H locs hX hP hD hS hJ => ?_)
    refine lv_goto (tgt := 330) hx hb dL_law_178 (by decide) ?_
    exact l330_thr hlt hL9 hk hacts hB hc1 hs1 nx (by decide +kernel) hrg hg hgA ⟨hX, hR, hP, hD, hS⟩ (lv_sub hl [2, 5, 6, 7, 8, 9, 10] rfl)
set_option maxHeartbeats 8000000 in
set_option maxRecDepth 100000 in
theorem kd_unload {p : Program} {l : Launch} {e : Env} {s : State} {m : MethodId} {below : List Frame} {meth : Method} {c : Code} {b L : Nat} {xs : Nat → Int32} {G : eG} {cJ : ClassId} {Q : State → Prop} {fe q B k acts : Nat} {fs : Nat → Nat → Int32} {f : Nat → Int32} {ff : Nat → Nat → Int32} {old sz : Nat} {g : Nat → Int64} {WC : va_W} {H : Heap} {locs : List Loc} {ls : Array Slot} {kept : Int64} {cells slots : Nat} (hlt : l.stackTraces = false) (hL : LX p s m c b L xs G cJ) (hk : k < 28) (hacts : acts ≤ k) (hB : B + 10000 < 700000000) (hc1 : cells + 1 ≤ 600130) (hs1 : slots + 6 ≤ 7301080) (nx : ∀ (acts : Nat) (fs : Nat → Nat → Int32) (f : Nat → Int32) (ff : Nat → Nat → Int32) (old sz : Nat) (g : Nat → Int64) (WC : va_W) (H : Heap) (locs : List Loc) (ls : Array Slot), acts ≤ k + 1 → RG fs f ff old sz acts → (∀ i, i < acts → g i = seenF (fs i)) → LD s G cJ fe q (B + 10000) f ff old sz g WC H locs → lv_has ls 14 [(6, .int (nI (k + 1))), (3, .int (nI acts)), (4, .long kept), (2, .ref q), (1, .ref fe), (0, .ref b)] → W p l e room_1 s m #[Value.ref b] below meth c H locs (cells + 1) (slots + 6) Q (F0 m 84 ls [])) {a9 b9 r9 : Nat} {x : Int32} (ha : a9 < 3) (hb9 : b9 < 22) (hrg : RG fs f ff old sz acts) (hg : ∀ i, i < acts → g i = seenF (fs i)) (hgA : g acts = seenF f) (hD : LD s G cJ fe q B f ff old sz g WC H locs) (hl : lv_has ls 14 [(11, .int (nI b9)), (10, .int (nI a9)), (9, .int (nI sz)), (8, .int (nI r9)), (7, .int x), (6, .int (nI k)), (3, .int (nI acts)), (4, .long kept), (2, .ref q), (1, .ref fe), (0, .ref b)]) : W p l e room_1 s m #[Value.ref b] below meth c H locs cells slots Q (F0 m 188 ls []) := by
  have hL9 := hL
  obtain ⟨hx, hb, hml, hown, hts, hE, hJ0, hKJ, hXs, hbl, hLL⟩ := hL
  have hAl : ∀ q, AA s q → s.heap.size ≤ q := fun _ h => h
  obtain ⟨hX, hR, hP, hD, hS⟩ := hD
  have hJ : JB s.heap.size s _ := hJ0.S hAl hS
  refine lv_aload_n hx hb dL_law_188 rfl (lv_at hl 9 rfl) ?_
  refine lv_iconst (v := nI 2) hx hb dL_law_189 (by decide +kernel) ?_
  refine lv_iconst (v := nI 0) hx hb dL_law_190 (by decide +kernel) ?_
  refine lv_iconst (v := nI 0) hx hb dL_law_191 (by decide +kernel) ?_
  refine cxc (st1 := [.int (unC f)]) (vx_runSW (As := [.ref fe, .int (nI 2), .int (nI 0), .int (nI 0)]) (rest := []) ⟨hx, hb, hml, hown, hts⟩ (CC_unload_ok l G hX hR (by omega) (nI 0) (nI 0)) (vx_cwSW 4 hts gL_law_L_call rfl rfl rfl (by decide +kernel) ⟨Nat.le_of_ble_eq_true rfl, Nat.le_of_ble_eq_true rfl⟩) (PK.preS hE hJ ⟨P_pre hP, D_al hAl (D_pre hD)⟩) rfl rfl hl.1 rfl (lv_room (Nat.le_of_ble_eq_true rfl)) dL_law_192 ⟨by show cells + 0 ≤ 600130; omega, by show slots + 0 ≤ 7301080; omega⟩) hP hD hS hJ0 hAl rfl (fun WC H locs hX hP hD hS hJ => ?_)
  refine lv_goto (tgt := 330) hx hb dL_law_195 (by decide) ?_
  have hR2 := PR_sav (B' := B + 10000) (f' := fUnl f) (by omega) hR (okf_mono (by omega) (okf_unl (by omega) hR.1))
  exact l330_ok hlt hL9 hk hacts hB hc1 hs1 nx (ge_unl f) (RG_sav hR.2.2.2.1 hR.2.2.2.2.1 hrg) (g_sav hrg hg hgA) ⟨hX, hR2, hP, hD, hS⟩ (lv_sub hl [2, 5, 6, 7, 8, 9, 10] rfl)
set_option maxHeartbeats 8000000 in
set_option maxRecDepth 100000 in
theorem kd_cross {p : Program} {l : Launch} {e : Env} {s : State} {m : MethodId} {below : List Frame} {meth : Method} {c : Code} {b L : Nat} {xs : Nat → Int32} {G : eG} {cJ : ClassId} {Q : State → Prop} {fe q B k acts : Nat} {fs : Nat → Nat → Int32} {f : Nat → Int32} {ff : Nat → Nat → Int32} {old sz : Nat} {g : Nat → Int64} {WC : va_W} {H : Heap} {locs : List Loc} {ls : Array Slot} {kept : Int64} {cells slots : Nat} (hlt : l.stackTraces = false) (hL : LX p s m c b L xs G cJ) (hk : k < 28) (hacts : acts ≤ k) (hB : B + 10000 < 700000000) (hc1 : cells + 1 ≤ 600130) (hs1 : slots + 6 ≤ 7301080) (nx : ∀ (acts : Nat) (fs : Nat → Nat → Int32) (f : Nat → Int32) (ff : Nat → Nat → Int32) (old sz : Nat) (g : Nat → Int64) (WC : va_W) (H : Heap) (locs : List Loc) (ls : Array Slot), acts ≤ k + 1 → RG fs f ff old sz acts → (∀ i, i < acts → g i = seenF (fs i)) → LD s G cJ fe q (B + 10000) f ff old sz g WC H locs → lv_has ls 14 [(6, .int (nI (k + 1))), (3, .int (nI acts)), (4, .long kept), (2, .ref q), (1, .ref fe), (0, .ref b)] → W p l e room_1 s m #[Value.ref b] below meth c H locs (cells + 1) (slots + 6) Q (F0 m 84 ls [])) {a9 b9 r9 : Nat} {x : Int32} (ha : a9 < 3) (hb9 : b9 < 22) (hrg : RG fs f ff old sz acts) (hg : ∀ i, i < acts → g i = seenF (fs i)) (hgA : g acts = seenF f) (hD : LD s G cJ fe q B f ff old sz g WC H locs) (hl : lv_has ls 14 [(11, .int (nI b9)), (10, .int (nI a9)), (9, .int (nI sz)), (8, .int (nI r9)), (7, .int x), (6, .int (nI k)), (3, .int (nI acts)), (4, .long kept), (2, .ref q), (1, .ref fe), (0, .ref b)]) : W p l e room_1 s m #[Value.ref b] below meth c H locs cells slots Q (F0 m 205 ls []) := by
  have hL9 := hL
  obtain ⟨hx, hb, hml, hown, hts, hE, hJ0, hKJ, hXs, hbl, hLL⟩ := hL
  have hAl : ∀ q, AA s q → s.heap.size ≤ q := fun _ h => h
  obtain ⟨hX, hR, hP, hD, hS⟩ := hD
  have hJ : JB s.heap.size s _ := hJ0.S hAl hS
  refine lv_aload_n hx hb dL_law_205 rfl (lv_at hl 9 rfl) ?_
  refine lv_iconst (v := nI 3) hx hb dL_law_206 (by decide +kernel) ?_
  refine lv_iconst (v := nI 0) hx hb dL_law_207 (by decide +kernel) ?_
  refine lv_iconst (v := nI 0) hx hb dL_law_208 (by decide +kernel) ?_
  by_cases h3 : fRsn f = 0
  · skip
    refine cxc (st1 := [.int (nI (fHrs f))]) (vx_runSW (As := [.ref fe, .int (nI 3), .int (nI 0), .int (nI 0)]) (rest := []) ⟨hx, hb, hml, hown, hts⟩ (CC_cross_ok l G hX hR (by omega) ((okf_cro hR.1).1) h3 (nI 0) (nI 0)) (vx_cwSW 4 hts gL_law_L_call rfl rfl rfl (by decide +kernel) ⟨Nat.le_of_ble_eq_true rfl, Nat.le_of_ble_eq_true rfl⟩) (PK.preS hE hJ ⟨P_pre hP, D_al hAl (D_pre hD)⟩) rfl rfl hl.1 rfl (lv_room (Nat.le_of_ble_eq_true rfl)) dL_law_209 ⟨by show cells + 0 ≤ 600130; omega, by show slots + 0 ≤ 7301080; omega⟩) hP hD hS hJ0 hAl rfl (fun WC H locs hX hP hD hS hJ => ?_)
    refine lv_goto (tgt := 330) hx hb dL_law_212 (by decide) ?_
    have hR2 := PR_sav (B' := B + 10000) (f' := fCrs f) (by omega) hR (okf_mono (by omega) (okf_crs (by omega) hR.1))
    exact l330_ok hlt hL9 hk hacts hB hc1 hs1 nx (ge_crs f) (RG_sav hR.2.2.2.1 hR.2.2.2.2.1 hrg) (g_sav hrg hg hgA) ⟨hX, hR2, hP, hD, hS⟩ (lv_sub hl [2, 5, 6, 7, 8, 9, 10] rfl)
  · skip
    refine cxc (st1 := [.int (-13)]) (vx_runSW (As := [.ref fe, .int (nI 3), .int (nI 0), .int (nI 0)]) (rest := []) ⟨hx, hb, hml, hown, hts⟩ (CC_cross_e1 l hlt G hX hR (by omega) h3 (nI 0) (nI 0)) (vx_cwSW 4 hts gL_law_L_call rfl rfl rfl (by decide +kernel) ⟨Nat.le_of_ble_eq_true rfl, Nat.le_of_ble_eq_true rfl⟩) (PK.preS hE hJ ⟨P_pre hP, D_al hAl (D_pre hD)⟩) rfl rfl hl.1 rfl (lv_room (Nat.le_of_ble_eq_true rfl)) dL_law_209 ⟨by show cells + 1 ≤ 600130; omega, by show slots + 6 ≤ 7301080; omega⟩) hP hD hS hJ0 hAl rfl (fun WC H locs hX hP hD hS hJ => ?_)
    refine lv_goto (tgt := 330) hx hb dL_law_212 (by decide) ?_
    exact l330_thr hlt hL9 hk hacts hB hc1 hs1 nx (by decide +kernel) hrg hg hgA ⟨hX, hR, hP, hD, hS⟩ (lv_sub hl [2, 5, 6, 7, 8, 9, 10] rfl)
set_option maxHeartbeats 8000000 in
set_option maxRecDepth 100000 in
theorem kd_pass {p : Program} {l : Launch} {e : Env} {s : State} {m : MethodId} {below : List Frame} {meth : Method} {c : Code} {b L : Nat} {xs : Nat → Int32} {G : eG} {cJ : ClassId} {Q : State → Prop} {fe q B k acts : Nat} {fs : Nat → Nat → Int32} {f : Nat → Int32} {ff : Nat → Nat → Int32} {old sz : Nat} {g : Nat → Int64} {WC : va_W} {H : Heap} {locs : List Loc} {ls : Array Slot} {kept : Int64} {cells slots : Nat} (hlt : l.stackTraces = false) (hL : LX p s m c b L xs G cJ) (hk : k < 28) (hacts : acts ≤ k) (hB : B + 10000 < 700000000) (hc1 : cells + 1 ≤ 600130) (hs1 : slots + 6 ≤ 7301080) (nx : ∀ (acts : Nat) (fs : Nat → Nat → Int32) (f : Nat → Int32) (ff : Nat → Nat → Int32) (old sz : Nat) (g : Nat → Int64) (WC : va_W) (H : Heap) (locs : List Loc) (ls : Array Slot), acts ≤ k + 1 → RG fs f ff old sz acts → (∀ i, i < acts → g i = seenF (fs i)) → LD s G cJ fe q (B + 10000) f ff old sz g WC H locs → lv_has ls 14 [(6, .int (nI (k + 1))), (3, .int (nI acts)), (4, .long kept), (2, .ref q), (1, .ref fe), (0, .ref b)] → W p l e room_1 s m #[Value.ref b] below meth c H locs (cells + 1) (slots + 6) Q (F0 m 84 ls [])) {a9 b9 r9 : Nat} {x : Int32} (ha : a9 < 3) (hb9 : b9 < 22) (hrg : RG fs f ff old sz acts) (hg : ∀ i, i < acts → g i = seenF (fs i)) (hgA : g acts = seenF f) (hD : LD s G cJ fe q B f ff old sz g WC H locs) (hl : lv_has ls 14 [(11, .int (nI b9)), (10, .int (nI a9)), (9, .int (nI sz)), (8, .int (nI r9)), (7, .int x), (6, .int (nI k)), (3, .int (nI acts)), (4, .long kept), (2, .ref q), (1, .ref fe), (0, .ref b)]) : W p l e room_1 s m #[Value.ref b] below meth c H locs cells slots Q (F0 m 222 ls []) := by
  have hL9 := hL
  obtain ⟨hx, hb, hml, hown, hts, hE, hJ0, hKJ, hXs, hbl, hLL⟩ := hL
  have hAl : ∀ q, AA s q → s.heap.size ≤ q := fun _ h => h
  obtain ⟨hX, hR, hP, hD, hS⟩ := hD
  have hJ : JB s.heap.size s _ := hJ0.S hAl hS
  refine lv_aload_n hx hb dL_law_222 rfl (lv_at hl 9 rfl) ?_
  refine lv_iconst (v := nI 4) hx hb dL_law_223 (by decide +kernel) ?_
  refine lv_iload hx hb dL_law_224 (lv_at hl 0 rfl) ?_
  refine lv_iconst (v := nI 0) hx hb dL_law_226 (by decide +kernel) ?_
  by_cases h1 : 1 ≤ b9
  · skip
    refine cxc (st1 := [.int (f 50 + nI b9)]) (vx_runSW (As := [.ref fe, .int (nI 4), .int (nI b9), .int (nI 0)]) (rest := []) ⟨hx, hb, hml, hown, hts⟩ (CC_pass_ok l G hX hR (by omega) b9 h1 (by omega) (nI 0)) (vx_cwSW 4 hts gL_law_L_call rfl rfl rfl (by decide +kernel) ⟨Nat.le_of_ble_eq_true rfl, Nat.le_of_ble_eq_true rfl⟩) (PK.preS hE hJ ⟨P_pre hP, D_al hAl (D_pre hD)⟩) rfl rfl hl.1 rfl (lv_room (Nat.le_of_ble_eq_true rfl)) dL_law_227 ⟨by show cells + 0 ≤ 600130; omega, by show slots + 0 ≤ 7301080; omega⟩) hP hD hS hJ0 hAl rfl (fun WC H locs hX hP hD hS hJ => ?_)
    refine lv_goto (tgt := 330) hx hb dL_law_230 (by decide) ?_
    have hR2 := PR_sav (B' := B + 10000) (f' := fPas f (nI b9)) (by omega) hR (okf_mono (by omega) (okf_pas (by omega) (by omega) hR.1))
    exact l330_ok hlt hL9 hk hacts hB hc1 hs1 nx (ge_pas hR.1 (by omega) (by omega)) (RG_sav hR.2.2.2.1 hR.2.2.2.2.1 hrg) (g_sav hrg hg hgA) ⟨hX, hR2, hP, hD, hS⟩ (lv_sub hl [2, 5, 6, 7, 8, 9, 10] rfl)
  · skip
    refine cxc (st1 := [.int (-12)]) (vx_runSW (As := [.ref fe, .int (nI 4), .int (nI b9), .int (nI 0)]) (rest := []) ⟨hx, hb, hml, hown, hts⟩ (CC_pass_e1 l hlt G hX hR (by omega) (nI b9) (no_in (by decide) (by omega) (by decide) (by omega)) (nI 0)) (vx_cwSW 4 hts gL_law_L_call rfl rfl rfl (by decide +kernel) ⟨Nat.le_of_ble_eq_true rfl, Nat.le_of_ble_eq_true rfl⟩) (PK.preS hE hJ ⟨P_pre hP, D_al hAl (D_pre hD)⟩) rfl rfl hl.1 rfl (lv_room (Nat.le_of_ble_eq_true rfl)) dL_law_227 ⟨by show cells + 1 ≤ 600130; omega, by show slots + 6 ≤ 7301080; omega⟩) hP hD hS hJ0 hAl rfl (fun WC H locs hX hP hD hS hJ => ?_)
    refine lv_goto (tgt := 330) hx hb dL_law_230 (by decide) ?_
    exact l330_thr hlt hL9 hk hacts hB hc1 hs1 nx (by decide +kernel) hrg hg hgA ⟨hX, hR, hP, hD, hS⟩ (lv_sub hl [2, 5, 6, 7, 8, 9, 10] rfl)
set_option maxHeartbeats 8000000 in
set_option maxRecDepth 100000 in
theorem kd_draw {p : Program} {l : Launch} {e : Env} {s : State} {m : MethodId} {below : List Frame} {meth : Method} {c : Code} {b L : Nat} {xs : Nat → Int32} {G : eG} {cJ : ClassId} {Q : State → Prop} {fe q B k acts : Nat} {fs : Nat → Nat → Int32} {f : Nat → Int32} {ff : Nat → Nat → Int32} {old sz : Nat} {g : Nat → Int64} {WC : va_W} {H : Heap} {locs : List Loc} {ls : Array Slot} {kept : Int64} {cells slots : Nat} (hlt : l.stackTraces = false) (hL : LX p s m c b L xs G cJ) (hk : k < 28) (hacts : acts ≤ k) (hB : B + 10000 < 700000000) (hc1 : cells + 1 ≤ 600130) (hs1 : slots + 6 ≤ 7301080) (nx : ∀ (acts : Nat) (fs : Nat → Nat → Int32) (f : Nat → Int32) (ff : Nat → Nat → Int32) (old sz : Nat) (g : Nat → Int64) (WC : va_W) (H : Heap) (locs : List Loc) (ls : Array Slot), acts ≤ k + 1 → RG fs f ff old sz acts → (∀ i, i < acts → g i = seenF (fs i)) → LD s G cJ fe q (B + 10000) f ff old sz g WC H locs → lv_has ls 14 [(6, .int (nI (k + 1))), (3, .int (nI acts)), (4, .long kept), (2, .ref q), (1, .ref fe), (0, .ref b)] → W p l e room_1 s m #[Value.ref b] below meth c H locs (cells + 1) (slots + 6) Q (F0 m 84 ls [])) {a9 b9 r9 : Nat} {x : Int32} (ha : a9 < 3) (hb9 : b9 < 22) (hrg : RG fs f ff old sz acts) (hg : ∀ i, i < acts → g i = seenF (fs i)) (hgA : g acts = seenF f) (hD : LD s G cJ fe q B f ff old sz g WC H locs) (hl : lv_has ls 14 [(11, .int (nI b9)), (10, .int (nI a9)), (9, .int (nI sz)), (8, .int (nI r9)), (7, .int x), (6, .int (nI k)), (3, .int (nI acts)), (4, .long kept), (2, .ref q), (1, .ref fe), (0, .ref b)]) : W p l e room_1 s m #[Value.ref b] below meth c H locs cells slots Q (F0 m 240 ls []) := by
  have hL9 := hL
  obtain ⟨hx, hb, hml, hown, hts, hE, hJ0, hKJ, hXs, hbl, hLL⟩ := hL
  have hAl : ∀ q, AA s q → s.heap.size ≤ q := fun _ h => h
  obtain ⟨hX, hR, hP, hD, hS⟩ := hD
  have hJ : JB s.heap.size s _ := hJ0.S hAl hS
  refine lv_aload_n hx hb dL_law_240 rfl (lv_at hl 9 rfl) ?_
  refine lv_iconst (v := nI 5) hx hb dL_law_241 (by decide +kernel) ?_
  refine lv_iload hx hb dL_law_242 (lv_at hl 4 rfl) ?_
  refine lv_bipush (v := nI 6) hx hb dL_law_244 (by decide +kernel) ?_
  refine lv_ishr hx hb dL_law_246 ?_
  refine lv_bipush (v := nI 7) hx hb dL_law_247 (by decide +kernel) ?_
  refine pcall (st1 := [.int (ptF (x >>> ((nI 6) &&& 31)) 7), .int (nI 5), .ref fe]) (va_runS (As := [.int (x >>> ((nI 6) &&& 31)), .int (nI 7)]) (rest := [.int (nI 5), .ref fe]) ⟨hx, hb, hml, hown, hts⟩ (K_part l G (x >>> ((nI 6) &&& 31)) 7 (by decide) (by decide)) (va_cwS 2 hts gL_law_L_part rfl rfl rfl (by decide +kernel) ⟨Nat.le_of_ble_eq_true rfl, Nat.le_of_ble_eq_true rfl⟩) (PC.preS hE trivial) rfl rfl hl.1 rfl (lv_room (Nat.le_of_ble_eq_true rfl)) dL_law_249 ⟨by show _ + 0 ≤ 600130; omega, by show _ + 0 ≤ 7301080; omega⟩) rfl ?_
  obtain ⟨d9, d9_lt, d9_e⟩ := pt_lt (x >>> ((nI 6) &&& 31)) (n := 7) (by decide) (by decide)
  refine tI (y := nI d9) d9_e ?_
  refine lv_iconst (v := nI 0) hx hb dL_law_252 (by decide +kernel) ?_
  by_cases h1 : 1 ≤ d9 ∧ d9 ≤ 5
  · skip
    by_cases h3 : d9 ≤ nn f 49
    · skip
      refine cxc (st1 := [.int (f 49 - nI d9)]) (vx_runSW (As := [.ref fe, .int (nI 5), .int (nI d9), .int (nI 0)]) (rest := []) ⟨hx, hb, hml, hown, hts⟩ (CC_draw_ok l G hX hR (by omega) hR.1.2.2.1.2.2.1 d9 h1.1 h1.2 h3 (nI 0)) (vx_cwSW 4 hts gL_law_L_call rfl rfl rfl (by decide +kernel) ⟨Nat.le_of_ble_eq_true rfl, Nat.le_of_ble_eq_true rfl⟩) (PK.preS hE hJ ⟨P_pre hP, D_al hAl (D_pre hD)⟩) rfl rfl hl.1 rfl (lv_room (Nat.le_of_ble_eq_true rfl)) dL_law_253 ⟨by show cells + 0 ≤ 600130; omega, by show slots + 0 ≤ 7301080; omega⟩) hP hD hS hJ0 hAl rfl (fun WC H locs hX hP hD hS hJ => ?_)
      refine lv_goto (tgt := 330) hx hb dL_law_256 (by decide) ?_
      have hR2 := PR_sav (B' := B + 10000) (f' := fDrw f d9) (by omega) hR (okf_mono (by omega) (okf_drw (by omega) h1.2 h3 hR.1))
      exact l330_ok hlt hL9 hk hacts hB hc1 hs1 nx (ge_drw hR.1 h3) (RG_sav hR.2.2.2.1 hR.2.2.2.2.1 hrg) (g_sav hrg hg hgA) ⟨hX, hR2, hP, hD, hS⟩ (lv_sub hl [2, 5, 6, 7, 8, 9, 10] rfl)
    · skip
      refine cxc (st1 := [.int (-13)]) (vx_runSW (As := [.ref fe, .int (nI 5), .int (nI d9), .int (nI 0)]) (rest := []) ⟨hx, hb, hml, hown, hts⟩ (CC_draw_e2 l hlt G hX hR (by omega) hR.1.2.2.1.2.2.1 d9 h1.1 h1.2 h3 (nI 0)) (vx_cwSW 4 hts gL_law_L_call rfl rfl rfl (by decide +kernel) ⟨Nat.le_of_ble_eq_true rfl, Nat.le_of_ble_eq_true rfl⟩) (PK.preS hE hJ ⟨P_pre hP, D_al hAl (D_pre hD)⟩) rfl rfl hl.1 rfl (lv_room (Nat.le_of_ble_eq_true rfl)) dL_law_253 ⟨by show cells + 1 ≤ 600130; omega, by show slots + 6 ≤ 7301080; omega⟩) hP hD hS hJ0 hAl rfl (fun WC H locs hX hP hD hS hJ => ?_)
      refine lv_goto (tgt := 330) hx hb dL_law_256 (by decide) ?_
      exact l330_thr hlt hL9 hk hacts hB hc1 hs1 nx (by decide +kernel) hrg hg hgA ⟨hX, hR, hP, hD, hS⟩ (lv_sub hl [2, 5, 6, 7, 8, 9, 10] rfl)
  · skip
    refine cxc (st1 := [.int (-12)]) (vx_runSW (As := [.ref fe, .int (nI 5), .int (nI d9), .int (nI 0)]) (rest := []) ⟨hx, hb, hml, hown, hts⟩ (CC_draw_e1 l hlt G hX hR (by omega) (nI d9) (no_in (by decide) (by omega) (by decide) h1) (nI 0)) (vx_cwSW 4 hts gL_law_L_call rfl rfl rfl (by decide +kernel) ⟨Nat.le_of_ble_eq_true rfl, Nat.le_of_ble_eq_true rfl⟩) (PK.preS hE hJ ⟨P_pre hP, D_al hAl (D_pre hD)⟩) rfl rfl hl.1 rfl (lv_room (Nat.le_of_ble_eq_true rfl)) dL_law_253 ⟨by show cells + 1 ≤ 600130; omega, by show slots + 6 ≤ 7301080; omega⟩) hP hD hS hJ0 hAl rfl (fun WC H locs hX hP hD hS hJ => ?_)
    refine lv_goto (tgt := 330) hx hb dL_law_256 (by decide) ?_
    exact l330_thr hlt hL9 hk hacts hB hc1 hs1 nx (by decide +kernel) hrg hg hgA ⟨hX, hR, hP, hD, hS⟩ (lv_sub hl [2, 5, 6, 7, 8, 9, 10] rfl)
set_option maxHeartbeats 8000000 in
set_option maxRecDepth 100000 in
theorem kd_current {p : Program} {l : Launch} {e : Env} {s : State} {m : MethodId} {below : List Frame} {meth : Method} {c : Code} {b L : Nat} {xs : Nat → Int32} {G : eG} {cJ : ClassId} {Q : State → Prop} {fe q B k acts : Nat} {fs : Nat → Nat → Int32} {f : Nat → Int32} {ff : Nat → Nat → Int32} {old sz : Nat} {g : Nat → Int64} {WC : va_W} {H : Heap} {locs : List Loc} {ls : Array Slot} {kept : Int64} {cells slots : Nat} (hlt : l.stackTraces = false) (hL : LX p s m c b L xs G cJ) (hk : k < 28) (hacts : acts ≤ k) (hB : B + 10000 < 700000000) (hc1 : cells + 1 ≤ 600130) (hs1 : slots + 6 ≤ 7301080) (nx : ∀ (acts : Nat) (fs : Nat → Nat → Int32) (f : Nat → Int32) (ff : Nat → Nat → Int32) (old sz : Nat) (g : Nat → Int64) (WC : va_W) (H : Heap) (locs : List Loc) (ls : Array Slot), acts ≤ k + 1 → RG fs f ff old sz acts → (∀ i, i < acts → g i = seenF (fs i)) → LD s G cJ fe q (B + 10000) f ff old sz g WC H locs → lv_has ls 14 [(6, .int (nI (k + 1))), (3, .int (nI acts)), (4, .long kept), (2, .ref q), (1, .ref fe), (0, .ref b)] → W p l e room_1 s m #[Value.ref b] below meth c H locs (cells + 1) (slots + 6) Q (F0 m 84 ls [])) {a9 b9 r9 : Nat} {x : Int32} (ha : a9 < 3) (hb9 : b9 < 22) (hrg : RG fs f ff old sz acts) (hg : ∀ i, i < acts → g i = seenF (fs i)) (hgA : g acts = seenF f) (hD : LD s G cJ fe q B f ff old sz g WC H locs) (hl : lv_has ls 14 [(11, .int (nI b9)), (10, .int (nI a9)), (9, .int (nI sz)), (8, .int (nI r9)), (7, .int x), (6, .int (nI k)), (3, .int (nI acts)), (4, .long kept), (2, .ref q), (1, .ref fe), (0, .ref b)]) : W p l e room_1 s m #[Value.ref b] below meth c H locs cells slots Q (F0 m 266 ls []) := by
  have hL9 := hL
  obtain ⟨hx, hb, hml, hown, hts, hE, hJ0, hKJ, hXs, hbl, hLL⟩ := hL
  have hAl : ∀ q, AA s q → s.heap.size ≤ q := fun _ h => h
  obtain ⟨hX, hR, hP, hD, hS⟩ := hD
  have hJ : JB s.heap.size s _ := hJ0.S hAl hS
  refine lv_aload_n hx hb dL_law_266 rfl (lv_at hl 9 rfl) ?_
  refine lv_bipush (v := nI 6) hx hb dL_law_267 (by decide +kernel) ?_
  refine lv_iload hx hb dL_law_269 (lv_at hl 4 rfl) ?_
  refine lv_iconst (v := nI 4) hx hb dL_law_271 (by decide +kernel) ?_
  refine lv_ishr hx hb dL_law_272 ?_
  refine lv_bipush (v := nI 26) hx hb dL_law_273 (by decide +kernel) ?_
  refine pcall (st1 := [.int (ptF (x >>> ((nI 4) &&& 31)) 26), .int (nI 6), .ref fe]) (va_runS (As := [.int (x >>> ((nI 4) &&& 31)), .int (nI 26)]) (rest := [.int (nI 6), .ref fe]) ⟨hx, hb, hml, hown, hts⟩ (K_part l G (x >>> ((nI 4) &&& 31)) 26 (by decide) (by decide)) (va_cwS 2 hts gL_law_L_part rfl rfl rfl (by decide +kernel) ⟨Nat.le_of_ble_eq_true rfl, Nat.le_of_ble_eq_true rfl⟩) (PC.preS hE trivial) rfl rfl hl.1 rfl (lv_room (Nat.le_of_ble_eq_true rfl)) dL_law_275 ⟨by show _ + 0 ≤ 600130; omega, by show _ + 0 ≤ 7301080; omega⟩) rfl ?_
  obtain ⟨h9, h9_lt, h9_e⟩ := pt_lt (x >>> ((nI 4) &&& 31)) (n := 26) (by decide) (by decide)
  refine tI (y := nI h9) h9_e ?_
  refine lv_iload hx hb dL_law_278 (lv_at hl 4 rfl) ?_
  refine lv_bipush (v := nI 9) hx hb dL_law_280 (by decide +kernel) ?_
  refine lv_ishr hx hb dL_law_282 ?_
  refine lv_bipush (v := nI 43) hx hb dL_law_283 (by decide +kernel) ?_
  refine pcall (st1 := [.int (ptF (x >>> ((nI 9) &&& 31)) 43), .int (nI h9), .int (nI 6), .ref fe]) (va_runS (As := [.int (x >>> ((nI 9) &&& 31)), .int (nI 43)]) (rest := [.int (nI h9), .int (nI 6), .ref fe]) ⟨hx, hb, hml, hown, hts⟩ (K_part l G (x >>> ((nI 9) &&& 31)) 43 (by decide) (by decide)) (va_cwS 2 hts gL_law_L_part rfl rfl rfl (by decide +kernel) ⟨Nat.le_of_ble_eq_true rfl, Nat.le_of_ble_eq_true rfl⟩) (PC.preS hE trivial) rfl rfl hl.1 rfl (lv_room (Nat.le_of_ble_eq_true rfl)) dL_law_285 ⟨by show _ + 0 ≤ 600130; omega, by show _ + 0 ≤ 7301080; omega⟩) rfl ?_
  obtain ⟨q9, q9_lt, q9_e⟩ := pt_lt (x >>> ((nI 9) &&& 31)) (n := 43) (by decide) (by decide)
  refine tI (y := nI q9) q9_e ?_
  by_cases h1 : h9 < 24
  · skip
    by_cases h2 : q9 ≤ 40
    · skip
      refine cxc (st1 := [.int (f (3 + h9))]) (vx_runSW (As := [.ref fe, .int (nI 6), .int (nI h9), .int (nI q9)]) (rest := []) ⟨hx, hb, hml, hown, hts⟩ (CC_current_ok l G hX hR (by omega) h9 q9 h1 h2) (vx_cwSW 4 hts gL_law_L_call rfl rfl rfl (by decide +kernel) ⟨Nat.le_of_ble_eq_true rfl, Nat.le_of_ble_eq_true rfl⟩) (PK.preS hE hJ ⟨P_pre hP, D_al hAl (D_pre hD)⟩) rfl rfl hl.1 rfl (lv_room (Nat.le_of_ble_eq_true rfl)) dL_law_288 ⟨by show cells + 0 ≤ 600130; omega, by show slots + 0 ≤ 7301080; omega⟩) hP hD hS hJ0 hAl rfl (fun WC H locs hX hP hD hS hJ => ?_)
      refine lv_goto (tgt := 330) hx hb dL_law_291 (by decide) ?_
      have hR2 := PR_sav (B' := B + 10000) (f' := upd f (3 + h9) (nI q9)) (by omega) hR (okf_mono (by omega) (okf_cur hR.1 h1 h2))
      exact l330_ok hlt hL9 hk hacts hB hc1 hs1 nx (ge_cur hR.1 h1) (RG_sav hR.2.2.2.1 hR.2.2.2.2.1 hrg) (g_sav hrg hg hgA) ⟨hX, hR2, hP, hD, hS⟩ (lv_sub hl [2, 5, 6, 7, 8, 9, 10] rfl)
    · skip
      refine cxc (st1 := [.int (-12)]) (vx_runSW (As := [.ref fe, .int (nI 6), .int (nI h9), .int (nI q9)]) (rest := []) ⟨hx, hb, hml, hown, hts⟩ (CC_current_e2 l hlt G hX hR (by omega) (nI h9) (nI q9) (is_in (by decide) (by omega) (by decide) (by omega)) (no_in (by decide) (by omega) (by decide) (by omega))) (vx_cwSW 4 hts gL_law_L_call rfl rfl rfl (by decide +kernel) ⟨Nat.le_of_ble_eq_true rfl, Nat.le_of_ble_eq_true rfl⟩) (PK.preS hE hJ ⟨P_pre hP, D_al hAl (D_pre hD)⟩) rfl rfl hl.1 rfl (lv_room (Nat.le_of_ble_eq_true rfl)) dL_law_288 ⟨by show cells + 1 ≤ 600130; omega, by show slots + 6 ≤ 7301080; omega⟩) hP hD hS hJ0 hAl rfl (fun WC H locs hX hP hD hS hJ => ?_)
      refine lv_goto (tgt := 330) hx hb dL_law_291 (by decide) ?_
      exact l330_thr hlt hL9 hk hacts hB hc1 hs1 nx (by decide +kernel) hrg hg hgA ⟨hX, hR, hP, hD, hS⟩ (lv_sub hl [2, 5, 6, 7, 8, 9, 10] rfl)
  · skip
    refine cxc (st1 := [.int (-11)]) (vx_runSW (As := [.ref fe, .int (nI 6), .int (nI h9), .int (nI q9)]) (rest := []) ⟨hx, hb, hml, hown, hts⟩ (CC_current_e1 l hlt G hX hR (by omega) (nI h9) (nI q9) (no_in (by decide) (by omega) (by decide) (by omega))) (vx_cwSW 4 hts gL_law_L_call rfl rfl rfl (by decide +kernel) ⟨Nat.le_of_ble_eq_true rfl, Nat.le_of_ble_eq_true rfl⟩) (PK.preS hE hJ ⟨P_pre hP, D_al hAl (D_pre hD)⟩) rfl rfl hl.1 rfl (lv_room (Nat.le_of_ble_eq_true rfl)) dL_law_288 ⟨by show cells + 1 ≤ 600130; omega, by show slots + 6 ≤ 7301080; omega⟩) hP hD hS hJ0 hAl rfl (fun WC H locs hX hP hD hS hJ => ?_)
    refine lv_goto (tgt := 330) hx hb dL_law_291 (by decide) ?_
    exact l330_thr hlt hL9 hk hacts hB hc1 hs1 nx (by decide +kernel) hrg hg hgA ⟨hX, hR, hP, hD, hS⟩ (lv_sub hl [2, 5, 6, 7, 8, 9, 10] rfl)
set_option maxHeartbeats 8000000 in
set_option maxRecDepth 100000 in
theorem kd_set {p : Program} {l : Launch} {e : Env} {s : State} {m : MethodId} {below : List Frame} {meth : Method} {c : Code} {b L : Nat} {xs : Nat → Int32} {G : eG} {cJ : ClassId} {Q : State → Prop} {fe q B k acts : Nat} {fs : Nat → Nat → Int32} {f : Nat → Int32} {ff : Nat → Nat → Int32} {old sz : Nat} {g : Nat → Int64} {WC : va_W} {H : Heap} {locs : List Loc} {ls : Array Slot} {kept : Int64} {cells slots : Nat} (hlt : l.stackTraces = false) (hL : LX p s m c b L xs G cJ) (hk : k < 28) (hacts : acts ≤ k) (hB : B + 10000 < 700000000) (hc1 : cells + 1 ≤ 600130) (hs1 : slots + 6 ≤ 7301080) (nx : ∀ (acts : Nat) (fs : Nat → Nat → Int32) (f : Nat → Int32) (ff : Nat → Nat → Int32) (old sz : Nat) (g : Nat → Int64) (WC : va_W) (H : Heap) (locs : List Loc) (ls : Array Slot), acts ≤ k + 1 → RG fs f ff old sz acts → (∀ i, i < acts → g i = seenF (fs i)) → LD s G cJ fe q (B + 10000) f ff old sz g WC H locs → lv_has ls 14 [(6, .int (nI (k + 1))), (3, .int (nI acts)), (4, .long kept), (2, .ref q), (1, .ref fe), (0, .ref b)] → W p l e room_1 s m #[Value.ref b] below meth c H locs (cells + 1) (slots + 6) Q (F0 m 84 ls [])) {a9 b9 r9 : Nat} {x : Int32} (ha : a9 < 3) (hb9 : b9 < 22) (hrg : RG fs f ff old sz acts) (hg : ∀ i, i < acts → g i = seenF (fs i)) (hgA : g acts = seenF f) (hD : LD s G cJ fe q B f ff old sz g WC H locs) (hl : lv_has ls 14 [(11, .int (nI b9)), (10, .int (nI a9)), (9, .int (nI sz)), (8, .int (nI r9)), (7, .int x), (6, .int (nI k)), (3, .int (nI acts)), (4, .long kept), (2, .ref q), (1, .ref fe), (0, .ref b)]) : W p l e room_1 s m #[Value.ref b] below meth c H locs cells slots Q (F0 m 301 ls []) := by
  have hL9 := hL
  obtain ⟨hx, hb, hml, hown, hts, hE, hJ0, hKJ, hXs, hbl, hLL⟩ := hL
  have hAl : ∀ q, AA s q → s.heap.size ≤ q := fun _ h => h
  obtain ⟨hX, hR, hP, hD, hS⟩ := hD
  have hJ : JB s.heap.size s _ := hJ0.S hAl hS
  refine lv_aload_n hx hb dL_law_301 rfl (lv_at hl 9 rfl) ?_
  refine lv_bipush (v := nI 7) hx hb dL_law_302 (by decide +kernel) ?_
  refine lv_iload hx hb dL_law_304 (lv_at hl 1 rfl) ?_
  refine lv_iload hx hb dL_law_306 (lv_at hl 4 rfl) ?_
  refine lv_bipush (v := nI 6) hx hb dL_law_308 (by decide +kernel) ?_
  refine lv_ishr hx hb dL_law_310 ?_
  refine lv_bipush (v := nI 90) hx hb dL_law_311 (by decide +kernel) ?_
  refine pcall (st1 := [.int (ptF (x >>> ((nI 6) &&& 31)) 90), .int (nI a9), .int (nI 7), .ref fe]) (va_runS (As := [.int (x >>> ((nI 6) &&& 31)), .int (nI 90)]) (rest := [.int (nI a9), .int (nI 7), .ref fe]) ⟨hx, hb, hml, hown, hts⟩ (K_part l G (x >>> ((nI 6) &&& 31)) 90 (by decide) (by decide)) (va_cwS 2 hts gL_law_L_part rfl rfl rfl (by decide +kernel) ⟨Nat.le_of_ble_eq_true rfl, Nat.le_of_ble_eq_true rfl⟩) (PC.preS hE trivial) rfl rfl hl.1 rfl (lv_room (Nat.le_of_ble_eq_true rfl)) dL_law_313 ⟨by show _ + 0 ≤ 600130; omega, by show _ + 0 ≤ 7301080; omega⟩) rfl ?_
  obtain ⟨v9, v9_lt, v9_e⟩ := pt_lt (x >>> ((nI 6) &&& 31)) (n := 90) (by decide) (by decide)
  refine tI (y := nI v9) v9_e ?_
  by_cases h2 : stLo a9 ≤ v9 ∧ v9 ≤ stHi a9
  · skip
    refine cxc (st1 := [.int (f a9)]) (vx_runSW (As := [.ref fe, .int (nI 7), .int (nI a9), .int (nI v9)]) (rest := []) ⟨hx, hb, hml, hown, hts⟩ (CC_set_ok l G hX hR (by omega) a9 v9 ha h2.1 h2.2) (vx_cwSW 4 hts gL_law_L_call rfl rfl rfl (by decide +kernel) ⟨Nat.le_of_ble_eq_true rfl, Nat.le_of_ble_eq_true rfl⟩) (PK.preS hE hJ ⟨P_pre hP, D_al hAl (D_pre hD)⟩) rfl rfl hl.1 rfl (lv_room (Nat.le_of_ble_eq_true rfl)) dL_law_316 ⟨by show cells + 0 ≤ 600130; omega, by show slots + 0 ≤ 7301080; omega⟩) hP hD hS hJ0 hAl rfl (fun WC H locs hX hP hD hS hJ => ?_)
    refine lv_goto (tgt := 330) hx hb dL_law_319 (by decide) ?_
    have hR2 := PR_sav (B' := B + 10000) (f' := upd f a9 (nI v9)) (by omega) hR (okf_mono (by omega) (okf_set hR.1 ha h2.1 h2.2))
    exact l330_ok hlt hL9 hk hacts hB hc1 hs1 nx (ge_set hR.1 ha) (RG_sav hR.2.2.2.1 hR.2.2.2.2.1 hrg) (g_sav hrg hg hgA) ⟨hX, hR2, hP, hD, hS⟩ (lv_sub hl [2, 5, 6, 7, 8, 9, 10] rfl)
  · skip
    refine cxc (st1 := [.int (-12)]) (vx_runSW (As := [.ref fe, .int (nI 7), .int (nI a9), .int (nI v9)]) (rest := []) ⟨hx, hb, hml, hown, hts⟩ (CC_set_e2 l hlt G hX hR (by omega) a9 (nI v9) ha (no_in (by have := st_lt ha; omega) (by omega) (by have := st_lt ha; omega) h2)) (vx_cwSW 4 hts gL_law_L_call rfl rfl rfl (by decide +kernel) ⟨Nat.le_of_ble_eq_true rfl, Nat.le_of_ble_eq_true rfl⟩) (PK.preS hE hJ ⟨P_pre hP, D_al hAl (D_pre hD)⟩) rfl rfl hl.1 rfl (lv_room (Nat.le_of_ble_eq_true rfl)) dL_law_316 ⟨by show cells + 1 ≤ 600130; omega, by show slots + 6 ≤ 7301080; omega⟩) hP hD hS hJ0 hAl rfl (fun WC H locs hX hP hD hS hJ => ?_)
    refine lv_goto (tgt := 330) hx hb dL_law_319 (by decide) ?_
    exact l330_thr hlt hL9 hk hacts hB hc1 hs1 nx (by decide +kernel) hrg hg hgA ⟨hX, hR, hP, hD, hS⟩ (lv_sub hl [2, 5, 6, 7, 8, 9, 10] rfl)
set_option maxHeartbeats 8000000 in
set_option maxRecDepth 100000 in
theorem kd_goBack {p : Program} {l : Launch} {e : Env} {s : State} {m : MethodId} {below : List Frame} {meth : Method} {c : Code} {b L : Nat} {xs : Nat → Int32} {G : eG} {cJ : ClassId} {Q : State → Prop} {fe q B k acts : Nat} {fs : Nat → Nat → Int32} {f : Nat → Int32} {ff : Nat → Nat → Int32} {old sz : Nat} {g : Nat → Int64} {WC : va_W} {H : Heap} {locs : List Loc} {ls : Array Slot} {kept : Int64} {cells slots : Nat} (hlt : l.stackTraces = false) (hL : LX p s m c b L xs G cJ) (hk : k < 28) (hacts : acts ≤ k) (hB : B + 10000 < 700000000) (hc1 : cells + 1 ≤ 600130) (hs1 : slots + 6 ≤ 7301080) (nx : ∀ (acts : Nat) (fs : Nat → Nat → Int32) (f : Nat → Int32) (ff : Nat → Nat → Int32) (old sz : Nat) (g : Nat → Int64) (WC : va_W) (H : Heap) (locs : List Loc) (ls : Array Slot), acts ≤ k + 1 → RG fs f ff old sz acts → (∀ i, i < acts → g i = seenF (fs i)) → LD s G cJ fe q (B + 10000) f ff old sz g WC H locs → lv_has ls 14 [(6, .int (nI (k + 1))), (3, .int (nI acts)), (4, .long kept), (2, .ref q), (1, .ref fe), (0, .ref b)] → W p l e room_1 s m #[Value.ref b] below meth c H locs (cells + 1) (slots + 6) Q (F0 m 84 ls [])) {a9 b9 r9 : Nat} {x : Int32} (ha : a9 < 3) (hb9 : b9 < 22) (hrg : RG fs f ff old sz acts) (hg : ∀ i, i < acts → g i = seenF (fs i)) (hgA : g acts = seenF f) (hD : LD s G cJ fe q B f ff old sz g WC H locs) (hl : lv_has ls 14 [(11, .int (nI b9)), (10, .int (nI a9)), (9, .int (nI sz)), (8, .int (nI r9)), (7, .int x), (6, .int (nI k)), (3, .int (nI acts)), (4, .long kept), (2, .ref q), (1, .ref fe), (0, .ref b)]) : W p l e room_1 s m #[Value.ref b] below meth c H locs cells slots Q (F0 m 322 ls []) := by
  have hL9 := hL
  obtain ⟨hx, hb, hml, hown, hts, hE, hJ0, hKJ, hXs, hbl, hLL⟩ := hL
  have hAl : ∀ q, AA s q → s.heap.size ≤ q := fun _ h => h
  obtain ⟨hX, hR, hP, hD, hS⟩ := hD
  have hJ : JB s.heap.size s _ := hJ0.S hAl hS
  refine lv_aload_n hx hb dL_law_322 rfl (lv_at hl 9 rfl) ?_
  refine lv_bipush (v := nI 10) hx hb dL_law_323 (by decide +kernel) ?_
  refine lv_iconst (v := nI 0) hx hb dL_law_325 (by decide +kernel) ?_
  refine lv_iconst (v := nI 0) hx hb dL_law_326 (by decide +kernel) ?_
  refine cxc (st1 := [.int ((fnL LSN) 50)]) (vx_runSW (As := [.ref fe, .int (nI 10), .int (nI 0), .int (nI 0)]) (rest := []) ⟨hx, hb, hml, hown, hts⟩ (CC_goBack_ok l G hX hR (by omega) (nI 0) (nI 0)) (vx_cwSW 4 hts gL_law_L_call rfl rfl rfl (by decide +kernel) ⟨Nat.le_of_ble_eq_true rfl, Nat.le_of_ble_eq_true rfl⟩) (PK.preS hE hJ ⟨P_pre hP, D_al hAl (D_pre hD)⟩) rfl rfl hl.1 rfl (lv_room (Nat.le_of_ble_eq_true rfl)) dL_law_327 ⟨by show cells + 0 ≤ 600130; omega, by show slots + 0 ≤ 7301080; omega⟩) hP hD hS hJ0 hAl rfl (fun WC H locs hX hP hD hS hJ => ?_)
  have hR2 := PR_sav (B' := B + 10000) (f' := (fnL LSN)) (by omega) hR (okf_mono (by omega) (hR.2.1))
  exact l330_ok hlt hL9 hk hacts hB hc1 hs1 nx (ge_bck hR.2.1 (by omega)) (RG_sav hR.2.2.2.1 hR.2.2.2.2.1 hrg) (g_sav hrg hg hgA) ⟨hX, hR2, hP, hD, hS⟩ (lv_sub hl [2, 5, 6, 7, 8, 9, 10] rfl)

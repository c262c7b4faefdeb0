set_option maxHeartbeats 8000000 in
set_option maxRecDepth 100000 in
theorem law_loop {p : Program} {l : Launch} {e : Env} {s : State} {m : MethodId} {below : List Frame} {meth : Method} {c : Code} {b L : Nat} {xs : Nat → Int32} {G : eG} {cJ : ClassId} {Q : State → Prop} {fe q c0 s0 : Nat} {kept : Int64} (hlt : l.stackTraces = false) (hL : LX p s m c b L xs G cJ) (hc0 : c0 + 100 ≤ 600130) (hs0 : s0 + 1000 ≤ 7301080) (hQ : ∀ (acts : Nat) (fs : Nat → Nat → Int32) (f : Nat → Int32) (ff : Nat → Nat → Int32) (old sz : Nat) (g : Nat → Int64) (WC : va_W) (H : Heap) (locs : List Loc) (ls : Array Slot), acts ≤ 28 → RG fs f ff old sz acts → (∀ i, i < acts → g i = seenF (fs i)) → LD s G cJ fe q 320000 f ff old sz g WC H locs → lv_has ls 14 [(6, .int (nI 28)), (3, .int (nI acts)), (4, .long kept), (2, .ref q), (1, .ref fe), (0, .ref b)] → W p l e room_1 s m #[Value.ref b] below meth c H locs (c0 + 28) (s0 + 6 * 28) Q (F0 m 392 ls [])) :
    ∀ (n k : Nat), k + n = 28 → ∀ (acts : Nat) (fs : Nat → Nat → Int32) (f : Nat → Int32) (ff : Nat → Nat → Int32) (old sz : Nat) (g : Nat → Int64) (WC : va_W) (H : Heap) (locs : List Loc) (ls : Array Slot), acts ≤ k → RG fs f ff old sz acts → (∀ i, i < acts → g i = seenF (fs i)) → LD s G cJ fe q (10000 * (k + 4)) f ff old sz g WC H locs → lv_has ls 14 [(6, .int (nI k)), (3, .int (nI acts)), (4, .long kept), (2, .ref q), (1, .ref fe), (0, .ref b)] → W p l e room_1 s m #[Value.ref b] below meth c H locs (c0 + k) (s0 + 6 * k) Q (F0 m 84 ls []) := by
  have hL9 := hL
  obtain ⟨hx, hb, hml, hown, hts, hE, hJ0, hKJ, hXs, hbl, hLL⟩ := hL
  have hAl : ∀ q, AA s q → s.heap.size ≤ q := fun _ h => h
  have hbA : ¬ AA s b := Nat.not_le.mpr hbl
  intro n
  induction n with
  | zero =>
    intro k hk acts fs f ff old sz g WC H locs ls hacts hrg hg hD hl
    obtain rfl : k = 28 := by omega
    refine lv_iload hx hb dL_law_84 (lv_at hl 0 rfl) ?_
    refine lv_bipush (v := nI 28) hx hb dL_law_86 (by decide +kernel) ?_
    refine lv_icmp_ge (tgt := 392) hx hb dL_law_88 (by decide) (fun _ => ?_) (fun h => absurd h (by decide +kernel))
    exact hQ acts fs f ff old sz g WC H locs ls hacts hrg hg hD hl
  | succ n ih =>
    intro k hk acts fs f ff old sz g WC H locs ls hacts hrg hg hD hl
    obtain ⟨hX, hR, hP, hD, hS⟩ := hD
    have hJ : JB s.heap.size s _ := hJ0.S hAl hS
    have hk28 : k < 28 := by omega
    refine lv_iload hx hb dL_law_84 (lv_at hl 0 rfl) ?_
    refine lv_bipush (v := nI 28) hx hb dL_law_86 (by decide +kernel) ?_
    refine icmp_geN (tgt := 392) hx hb (by omega) (by decide) dL_law_88 (by decide) (fun h => absurd h (by omega)) (fun _ => ?_)
    refine lv_aload_n hx hb dL_law_91 rfl (lv_at hl 5 rfl) ?_
    refine lv_iload hx hb dL_law_92 (lv_at hl 0 rfl) ?_
    refine pcall (st1 := [.int (drF L xs k)]) (va_runS (As := [.ref b, .int (nI k)]) (rest := []) ⟨hx, hb, hml, hown, hts⟩ (K_drawn l b L k xs (by omega) hLL) (va_cwS 2 hts gL_law_L_drawn rfl rfl rfl (by decide +kernel) ⟨Nat.le_of_ble_eq_true rfl, Nat.le_of_ble_eq_true rfl⟩) (PD.preS (hXs.kept (hS.2.1 b hbl hbA)) (Nat.lt_of_lt_of_le hbl hS.1)) rfl rfl hl.1 rfl (lv_room (Nat.le_of_ble_eq_true rfl)) dL_law_94 ⟨by show _ + 0 ≤ 600130; omega, by show _ + 0 ≤ 7301080; omega⟩) rfl ?_
    obtain ⟨x, hx9⟩ : ∃ x, drF L xs k = x := ⟨_, rfl⟩
    refine tI (y := x) hx9 ?_
    refine lv_istore (lv' := [(7, .int x), (6, .int (nI k)), (3, .int (nI acts)), (4, .long kept), (2, .ref q), (1, .ref fe), (0, .ref b)]) hx hb dL_law_97 hl (by decide) rfl (fun ls hl => ?_)
    refine lv_iload hx hb dL_law_99 (lv_at hl 0 rfl) ?_
    refine lv_bipush (v := nI 15) hx hb dL_law_101 (by decide +kernel) ?_
    refine pcall (st1 := [.int (ptF x 15)]) (va_runS (As := [.int x, .int (nI 15)]) (rest := []) ⟨hx, hb, hml, hown, hts⟩ (K_part l G x 15 (by decide) (by decide)) (va_cwS 2 hts gL_law_L_part rfl rfl rfl (by decide +kernel) ⟨Nat.le_of_ble_eq_true rfl, Nat.le_of_ble_eq_true rfl⟩) (PC.preS hE trivial) rfl rfl hl.1 rfl (lv_room (Nat.le_of_ble_eq_true rfl)) dL_law_103 ⟨by show _ + 0 ≤ 600130; omega, by show _ + 0 ≤ 7301080; omega⟩) rfl ?_
    obtain ⟨r9, r9_lt, r9_e⟩ := pt_lt x (n := 15) (by decide) (by decide)
    refine tI (y := nI r9) r9_e ?_
    refine lv_istore (lv' := [(8, .int (nI r9)), (7, .int x), (6, .int (nI k)), (3, .int (nI acts)), (4, .long kept), (2, .ref q), (1, .ref fe), (0, .ref b)]) hx hb dL_law_106 hl (by decide) rfl (fun ls hl => ?_)
    refine lv_aload_n hx hb dL_law_108 rfl (lv_at hl 5 rfl) ?_
    refine lv_iload_n hx hb dL_law_109 rfl (lv_at hl 3 rfl) ?_
    refine lv_aload_n hx hb dL_law_110 rfl (lv_at hl 6 rfl) ?_
    refine cx0 (st1 := [.long (seenF f), .int (nI acts), .ref q]) (va_runS (As := [.ref fe]) (rest := [.int (nI acts), .ref q]) ⟨hx, hb, hml, hown, hts⟩ (K_seen l G hX hR (by omega)) (va_cwS 1 hts gL_law_L_seen rfl rfl rfl (by decide +kernel) ⟨Nat.le_of_ble_eq_true rfl, Nat.le_of_ble_eq_true rfl⟩) (PK.preS hE hJ ⟨P_pre hP, D_al hAl (D_pre hD)⟩) rfl rfl hl.1 rfl (lv_room (Nat.le_of_ble_eq_true rfl)) dL_law_111 ⟨by show _ + 0 ≤ 600130; omega, by show _ + 0 ≤ 7301080; omega⟩) hP hD hS hJ0 hAl rfl (fun WC H locs hX hP hD hS hJ => ?_)
    refine va_last hx hb hKJ (P_perm List.perm_append_comm hP) (D_perm List.perm_append_comm hD) hS 0 0 rfl rfl (vp_in_nI (n := acts) (N := 64) (by omega) (by decide)) dL_law_114 (fun H locs hP hD hS => ?_)
    rw [nI_clamp (by omega)] at hP hD
    replace hP : va_P G.1 vwCl (wA q cJ (vp_updL g acts (seenF f)) ++ WC) H := hP
    replace hD : va_D (AA s) (wA q cJ (vp_updL g acts (seenF f)) ++ WC) := hD
    replace hP : va_P G.1 vwCl (WC ++ wA q cJ (vp_updL g acts (seenF f))) H := P_perm List.perm_append_comm hP
    replace hD : va_D (AA s) (WC ++ wA q cJ (vp_updL g acts (seenF f))) := D_perm List.perm_append_comm hD
    have hJ : JB s.heap.size s H := hJ0.S hAl hS
    have hgA : vp_updL g acts (seenF f) acts = seenF f := pk_uLs
    have hg2 : ∀ i, i < acts → vp_updL g acts (seenF f) i = seenF (fs i) := fun i hi => (pk_uLn (by omega)).trans (hg i hi)
    refine lv_aload_n hx hb dL_law_115 rfl (lv_at hl 6 rfl) ?_
    refine lv_bipush (v := nI 13) hx hb dL_law_116 (by decide +kernel) ?_
    refine cx0 (st1 := [.int (fCnt f sz 13)]) (va_runV (As := [.int (nI 13)]) (rest := []) ⟨hx, hb, hml, hown, hts⟩ (CX_count_ok l G hX hR (by omega) 13 (by decide)) (cwV 1 hts gL_law_X5_count rfl rfl rfl (by decide +kernel) ⟨Nat.le_of_ble_eq_true rfl, Nat.le_of_ble_eq_true rfl⟩) (PJ.preV hE hJ.jx (xs_recv hE.1 hX (P_pre hP)) ⟨P_pre hP, D_tr (D_pre hD)⟩) rfl rfl hl.1 rfl (lv_room (Nat.le_of_ble_eq_true rfl)) dL_law_118 ⟨by show _ + 0 ≤ 600130; omega, by show _ + 0 ≤ 7301080; omega⟩) hP hD hS hJ0 hAl rfl (fun WC H locs hX hP hD hS hJ => ?_)
    refine tI (y := nI sz) rfl ?_
    refine lv_istore (lv' := [(9, .int (nI sz)), (8, .int (nI r9)), (7, .int x), (6, .int (nI k)), (3, .int (nI acts)), (4, .long kept), (2, .ref q), (1, .ref fe), (0, .ref b)]) hx hb dL_law_121 hl (by decide) rfl (fun ls hl => ?_)
    refine lv_iload hx hb dL_law_123 (lv_at hl 2 rfl) ?_
    refine lv_iconst (v := nI 4) hx hb dL_law_125 (by decide +kernel) ?_
    refine lv_ishr hx hb dL_law_126 ?_
    refine lv_iconst (v := nI 3) hx hb dL_law_127 (by decide +kernel) ?_
    refine pcall (st1 := [.int (ptF (x >>> ((nI 4) &&& 31)) 3)]) (va_runS (As := [.int (x >>> ((nI 4) &&& 31)), .int (nI 3)]) (rest := []) ⟨hx, hb, hml, hown, hts⟩ (K_part l G (x >>> ((nI 4) &&& 31)) 3 (by decide) (by decide)) (va_cwS 2 hts gL_law_L_part rfl rfl rfl (by decide +kernel) ⟨Nat.le_of_ble_eq_true rfl, Nat.le_of_ble_eq_true rfl⟩) (PC.preS hE trivial) rfl rfl hl.1 rfl (lv_room (Nat.le_of_ble_eq_true rfl)) dL_law_128 ⟨by show _ + 0 ≤ 600130; omega, by show _ + 0 ≤ 7301080; omega⟩) rfl ?_
    obtain ⟨a9, a9_lt, a9_e⟩ := pt_lt (x >>> ((nI 4) &&& 31)) (n := 3) (by decide) (by decide)
    refine tI (y := nI a9) a9_e ?_
    refine lv_istore (lv' := [(10, .int (nI a9)), (9, .int (nI sz)), (8, .int (nI r9)), (7, .int x), (6, .int (nI k)), (3, .int (nI acts)), (4, .long kept), (2, .ref q), (1, .ref fe), (0, .ref b)]) hx hb dL_law_131 hl (by decide) rfl (fun ls hl => ?_)
    refine lv_iload hx hb dL_law_133 (lv_at hl 3 rfl) ?_
    refine lv_bipush (v := nI 6) hx hb dL_law_135 (by decide +kernel) ?_
    refine lv_ishr hx hb dL_law_137 ?_
    refine lv_bipush (v := nI 22) hx hb dL_law_138 (by decide +kernel) ?_
    refine pcall (st1 := [.int (ptF (x >>> ((nI 6) &&& 31)) 22)]) (va_runS (As := [.int (x >>> ((nI 6) &&& 31)), .int (nI 22)]) (rest := []) ⟨hx, hb, hml, hown, hts⟩ (K_part l G (x >>> ((nI 6) &&& 31)) 22 (by decide) (by decide)) (va_cwS 2 hts gL_law_L_part rfl rfl rfl (by decide +kernel) ⟨Nat.le_of_ble_eq_true rfl, Nat.le_of_ble_eq_true rfl⟩) (PC.preS hE trivial) rfl rfl hl.1 rfl (lv_room (Nat.le_of_ble_eq_true rfl)) dL_law_140 ⟨by show _ + 0 ≤ 600130; omega, by show _ + 0 ≤ 7301080; omega⟩) rfl ?_
    obtain ⟨b9, b9_lt, b9_e⟩ := pt_lt (x >>> ((nI 6) &&& 31)) (n := 22) (by decide) (by decide)
    refine tI (y := nI b9) b9_e ?_
    refine lv_istore (lv' := [(11, .int (nI b9)), (10, .int (nI a9)), (9, .int (nI sz)), (8, .int (nI r9)), (7, .int x), (6, .int (nI k)), (3, .int (nI acts)), (4, .long kept), (2, .ref q), (1, .ref fe), (0, .ref b)]) hx hb dL_law_143 hl (by decide) rfl (fun ls hl => ?_)
    have nx : ∀ (acts : Nat) (fs : Nat → Nat → Int32) (f : Nat → Int32) (ff : Nat → Nat → Int32) (old sz : Nat) (g : Nat → Int64) (WC : va_W) (H : Heap) (locs : List Loc) (ls : Array Slot), acts ≤ k + 1 → RG fs f ff old sz acts → (∀ i, i < acts → g i = seenF (fs i)) → LD s G cJ fe q (10000 * (k + 4) + 10000) f ff old sz g WC H locs → lv_has ls 14 [(6, .int (nI (k + 1))), (3, .int (nI acts)), (4, .long kept), (2, .ref q), (1, .ref fe), (0, .ref b)] → W p l e room_1 s m #[Value.ref b] below meth c H locs (c0 + k + 1) (s0 + 6 * k + 6) Q (F0 m 84 ls []) := by
      intro acts fs f ff old sz g WC H locs ls h1 h2 h3 h4 h5
      rw [show 10000 * (k + 4) + 10000 = 10000 * (k + 1 + 4) by omega] at h4
      exact ih (k + 1) (by omega) acts fs f ff old sz g WC H locs ls h1 h2 h3 h4 h5
    have hDD : LD s G cJ fe q (10000 * (k + 4)) f ff old sz (vp_updL g acts (seenF f)) WC H locs := ⟨hX, hR, hP, hD, hS⟩
    replace hl : lv_has ls 14 [(11, .int (nI b9)), (10, .int (nI a9)), (9, .int (nI sz)), (8, .int (nI r9)), (7, .int x), (6, .int (nI k)), (3, .int (nI acts)), (4, .long kept), (2, .ref q), (1, .ref fe), (0, .ref b)] := lv_sub hl [0, 1, 2, 3, 4, 5, 6, 7, 8, 9, 10] rfl
    refine lv_iload hx hb dL_law_145 (lv_at hl 3 rfl) ?_
    refine lv_iconst (v := nI 3) hx hb dL_law_147 (by decide +kernel) ?_
    refine icmp_geN (tgt := 163) hx hb (by omega) (by decide) dL_law_148 (by decide) (fun _ => ?_) (fun _ => kd_arrive hlt hL9 hk28 hacts (by omega) (by omega) (by omega) nx a9_lt b9_lt hrg hg2 hgA hDD hl)
    refine lv_iload hx hb dL_law_163 (lv_at hl 3 rfl) ?_
    refine lv_bipush (v := nI 6) hx hb dL_law_165 (by decide +kernel) ?_
    refine icmp_geN (tgt := 181) hx hb (by omega) (by decide) dL_law_167 (by decide) (fun _ => ?_) (fun _ => kd_load hlt hL9 hk28 hacts (by omega) (by omega) (by omega) nx a9_lt b9_lt hrg hg2 hgA hDD hl)
    refine lv_iload hx hb dL_law_181 (lv_at hl 3 rfl) ?_
    refine lv_bipush (v := nI 6) hx hb dL_law_183 (by decide +kernel) ?_
    refine icmp_neN (tgt := 198) hx hb (by omega) (by decide) dL_law_185 (by decide) (fun _ => ?_) (fun _ => kd_unload hlt hL9 hk28 hacts (by omega) (by omega) (by omega) nx a9_lt b9_lt hrg hg2 hgA hDD hl)
    refine lv_iload hx hb dL_law_198 (lv_at hl 3 rfl) ?_
    refine lv_bipush (v := nI 10) hx hb dL_law_200 (by decide +kernel) ?_
    refine icmp_geN (tgt := 215) hx hb (by omega) (by decide) dL_law_202 (by decide) (fun _ => ?_) (fun _ => kd_cross hlt hL9 hk28 hacts (by omega) (by omega) (by omega) nx a9_lt b9_lt hrg hg2 hgA hDD hl)
    refine lv_iload hx hb dL_law_215 (lv_at hl 3 rfl) ?_
    refine lv_bipush (v := nI 10) hx hb dL_law_217 (by decide +kernel) ?_
    refine icmp_neN (tgt := 233) hx hb (by omega) (by decide) dL_law_219 (by decide) (fun _ => ?_) (fun _ => kd_pass hlt hL9 hk28 hacts (by omega) (by omega) (by omega) nx a9_lt b9_lt hrg hg2 hgA hDD hl)
    refine lv_iload hx hb dL_law_233 (lv_at hl 3 rfl) ?_
    refine lv_bipush (v := nI 11) hx hb dL_law_235 (by decide +kernel) ?_
    refine icmp_neN (tgt := 259) hx hb (by omega) (by decide) dL_law_237 (by decide) (fun _ => ?_) (fun _ => kd_draw hlt hL9 hk28 hacts (by omega) (by omega) (by omega) nx a9_lt b9_lt hrg hg2 hgA hDD hl)
    refine lv_iload hx hb dL_law_259 (lv_at hl 3 rfl) ?_
    refine lv_bipush (v := nI 12) hx hb dL_law_261 (by decide +kernel) ?_
    refine icmp_neN (tgt := 294) hx hb (by omega) (by decide) dL_law_263 (by decide) (fun _ => ?_) (fun _ => kd_current hlt hL9 hk28 hacts (by omega) (by omega) (by omega) nx a9_lt b9_lt hrg hg2 hgA hDD hl)
    refine lv_iload hx hb dL_law_294 (lv_at hl 3 rfl) ?_
    refine lv_bipush (v := nI 13) hx hb dL_law_296 (by decide +kernel) ?_
    refine icmp_neN (tgt := 322) hx hb (by omega) (by decide) dL_law_298 (by decide) (fun _ => ?_) (fun _ => kd_set hlt hL9 hk28 hacts (by omega) (by omega) (by omega) nx a9_lt b9_lt hrg hg2 hgA hDD hl)
    exact kd_goBack hlt hL9 hk28 hacts (by omega) (by omega) (by omega) nx a9_lt b9_lt hrg hg2 hgA hDD hl

set_option maxHeartbeats 8000000 in
set_option maxRecDepth 100000 in
theorem law_loop {p : Program} {l : Launch} {e : Env} {s : State} {m : MethodId} {below : List Frame} {meth : Method} {c : Code} {b L : Nat} {xs : Nat → Int32} {G : eG} {cJ : ClassId} {Q : State → Prop} (hlt : l.stackTraces = false) (hL : LX p s m c b L xs G cJ) (hLL : L ≤ 2048) {fe ob ou : Nat} (hQ : ∀ (H : Heap) (locs : List Loc) (ls : Array Slot) (cells slots : Nat), va_S (AA s) s.heap H locs → cells ≤ 601024 → slots ≤ 7293034 → W p l e room_1 s m #[Value.ref b] below meth c H locs cells slots Q (F0 m 1497 ls [])) :
    ∀ (n k : Nat), n + k = 513 → ∀ (f sf : Nat → Int32) (ff : Nat → Nat → Int32) (old sz len : Nat) (tx : Nat → Int32) (hsn : Int32) (thr : Int32) (lo : Nat → Int64) (WC MC : va_W) (H : Heap) (locs : List Loc) (ls : Array Slot), LD s G cJ b fe ob ou (10000 * k) f sf ff old sz len tx hsn thr lo WC MC H locs ls (4 * k) → W p l e room_1 s m #[Value.ref b] below meth c H locs (200 + k) (2500 + 6 * k) Q (F0 m 23 ls []) := by
  have hL' := hL
  obtain ⟨hx, hb, hml, hown, hts, hE, hJ0, hKJ, hXs, hbl⟩ := hL
  have hbA : ¬ AA s b := Nat.not_le.mpr hbl
  intro n
  induction n with
  | zero => 
    intro k hk f sf ff old sz len tx hsn thr lo WC MC H locs ls hD
    have hS := hD.2.2.2.2.2.1
    have hl := hD.2.2.2.2.2.2
    refine lv_iload hx hb dL_law_23 (lv_at hl 4 rfl) ?_
    refine lv_aload_n hx hb dL_law_25 rfl (lv_at hl 0 rfl) ?_
    refine va_slen hx hb hXs hbl hbA hS dL_law_26 ?_
    refine lv_iconst (v := nI 4) hx hb dL_law_27 (by decide +kernel) ?_
    refine lv_isub hx hb dL_law_28 ?_
    refine lv_icmp_gt (tgt := 1497) hx hb dL_law_29 (by decide) (fun _ => ?_) (fun h => absurd (head_t (k := k) hLL (by omega) (by omega)) h)
    exact hQ _ _ _ _ _ hS (by omega) (by omega)
  | succ n ih =>
    intro k hk f sf ff old sz len tx hsn thr lo WC MC H locs ls hD
    have hS := hD.2.2.2.2.2.1
    have hl := hD.2.2.2.2.2.2
    have hgo : ∀ (f sf : Nat → Int32) (ff : Nat → Nat → Int32) (old sz len : Nat) (tx : Nat → Int32) (hsn thr : Int32) (lo : Nat → Int64) (WC MC : va_W) (H : Heap) (locs : List Loc) (ls : Array Slot), LD s G cJ b fe ob ou (10000 * k + 10000) f sf ff old sz len tx hsn thr lo WC MC H locs ls (4 * k) → W p l e room_1 s m #[Value.ref b] below meth c H locs (200 + k + 1) (2500 + 6 * k + 6) Q (F0 m 1491 ls []) := by
      intro f sf ff old sz len tx hsn thr lo WC MC H locs ls hD
      obtain ⟨hX, hR, hM, hP, hDD, hS, hl⟩ := hD
      refine lv_iinc (v := nI (4 * k + 4)) (lv' := [(4, .int (nI (4 * k + 4))), (0, .ref b), (1, .ref fe), (2, .ref ob), (3, .ref ou)]) hx hb dL_law_1491 hl (k := 4) rfl (nI_inc4 _) (by decide) rfl (fun ls hl => ?_)
      refine lv_goto (tgt := 23) hx hb dL_law_1494 (by decide) ?_
      have e1 : 4 * k + 4 = 4 * (k + 1) := by omega
      have e2 : 10000 * k + 10000 = 10000 * (k + 1) := by omega
      rw [e1] at hl
      rw [e2] at hR
      exact ih (k + 1) (by omega) f sf ff old sz len tx hsn thr lo WC MC H locs ls ⟨hX, hR, hM, hP, hDD, hS, lv_sub hl [1, 2, 3, 4, 0] rfl⟩
    refine lv_iload hx hb dL_law_23 (lv_at hl 4 rfl) ?_
    refine lv_aload_n hx hb dL_law_25 rfl (lv_at hl 0 rfl) ?_
    refine va_slen hx hb hXs hbl hbA hS dL_law_26 ?_
    refine lv_iconst (v := nI 4) hx hb dL_law_27 (by decide +kernel) ?_
    refine lv_isub hx hb dL_law_28 ?_
    by_cases hi : 4 * k + 4 ≤ L
    · refine lv_icmp_gt (tgt := 1497) hx hb dL_law_29 (by decide) (fun h => absurd h (head_f hLL hi)) (fun _ => ?_)
      refine lv_aload_n hx hb dL_law_32 rfl (lv_at hl 0 rfl) ?_
      refine lv_iload hx hb dL_law_33 (lv_at hl 4 rfl) ?_
      refine va_sld hx hb hXs hbl hbA hS (vp_in_nI (n := 4 * k) (by omega) (by omega)) dL_law_35 ?_
      refine lv_bipush (v := nI 31) hx hb dL_law_36 (by decide +kernel) ?_
      refine lv_iand hx hb dL_law_38 ?_
      obtain ⟨n9, hn9, e9⟩ := and31 (xs (nI (4 * k)).toNatClampNeg)
      rw [e9]
      have hB1 : 10000 * k + 10000 < 700000000 := by omega
      have hc9 : 200 + k + 1 ≤ 601024 := by omega
      have hs9 : 2500 + 6 * k + 6 ≤ 7293034 := by omega
      rcases (show n9 = 0 ∨ n9 = 1 ∨ n9 = 2 ∨ n9 = 3 ∨ n9 = 4 ∨ n9 = 5 ∨ n9 = 6 ∨ n9 = 7 ∨ n9 = 8 ∨ n9 = 9 ∨ n9 = 10 ∨ n9 = 11 ∨ n9 = 12 ∨ n9 = 13 ∨ n9 = 14 ∨ n9 = 15 ∨ n9 = 16 ∨ n9 = 17 ∨ n9 = 18 ∨ n9 = 19 ∨ n9 = 20 ∨ n9 = 21 ∨ n9 = 22 ∨ n9 = 23 ∨ n9 = 24 ∨ n9 = 25 ∨ n9 = 26 ∨ n9 = 27 ∨ n9 = 28 ∨ n9 = 29 ∨ n9 = 30 ∨ n9 = 31 by omega) with rfl | rfl | rfl | rfl | rfl | rfl | rfl | rfl | rfl | rfl | rfl | rfl | rfl | rfl | rfl | rfl | rfl | rfl | rfl | rfl | rfl | rfl | rfl | rfl | rfl | rfl | rfl | rfl | rfl | rfl | rfl | rfl
      · exact lv_tableIn (off := 137) (tgt := 176) hx hb dL_law_39 (by decide +kernel) (by decide +kernel) (by decide +kernel) (by decide) (op_current hlt hL' hD hi hLL hB1 hc9 hs9 hgo)
      · exact lv_tableIn (off := 205) (tgt := 244) hx hb dL_law_39 (by decide +kernel) (by decide +kernel) (by decide +kernel) (by decide) (op_arrive hlt hL' hD hi hLL hB1 hc9 hs9 hgo)
      · exact lv_tableIn (off := 273) (tgt := 312) hx hb dL_law_39 (by decide +kernel) (by decide +kernel) (by decide +kernel) (by decide) (op_load hlt hL' hD hi hLL hB1 hc9 hs9 hgo)
      · exact lv_tableIn (off := 329) (tgt := 368) hx hb dL_law_39 (by decide +kernel) (by decide +kernel) (by decide +kernel) (by decide) (op_unload hlt hL' hD hi hLL hB1 hc9 hs9 hgo)
      · exact lv_tableIn (off := 342) (tgt := 381) hx hb dL_law_39 (by decide +kernel) (by decide +kernel) (by decide +kernel) (by decide) (op_cross hlt hL' hD hi hLL hB1 hc9 hs9 hgo)
      · exact lv_tableIn (off := 386) (tgt := 425) hx hb dL_law_39 (by decide +kernel) (by decide +kernel) (by decide +kernel) (by decide) (op_pass hlt hL' hD hi hLL hB1 hc9 hs9 hgo)
      · exact lv_tableIn (off := 442) (tgt := 481) hx hb dL_law_39 (by decide +kernel) (by decide +kernel) (by decide +kernel) (by decide) (op_draw hlt hL' hD hi hLL hB1 hc9 hs9 hgo)
      · exact lv_tableIn (off := 498) (tgt := 537) hx hb dL_law_39 (by decide +kernel) (by decide +kernel) (by decide +kernel) (by decide) (op_set hlt hL' hD hi hLL hB1 hc9 hs9 hgo)
      · exact lv_tableIn (off := 566) (tgt := 605) hx hb dL_law_39 (by decide +kernel) (by decide +kernel) (by decide +kernel) (by decide) (op_append hlt hL' hD hi hLL hB1 hc9 hs9 hgo)
      · exact lv_tableIn (off := 622) (tgt := 661) hx hb dL_law_39 (by decide +kernel) (by decide +kernel) (by decide +kernel) (by decide) (op_clearBuffer hlt hL' hD hi hLL hB1 hc9 hs9 hgo)
      · exact lv_tableIn (off := 635) (tgt := 674) hx hb dL_law_39 (by decide +kernel) (by decide +kernel) (by decide +kernel) (by decide) (op_firstError hlt hL' hD hi hLL hB1 hc9 hs9 hgo)
      · exact lv_tableIn (off := 648) (tgt := 687) hx hb dL_law_39 (by decide +kernel) (by decide +kernel) (by decide +kernel) (by decide) (op_obey hlt hL' hD hi hLL hB1 hc9 hs9 hgo)
      · exact lv_tableIn (off := 692) (tgt := 731) hx hb dL_law_39 (by decide +kernel) (by decide +kernel) (by decide +kernel) (by decide) (op_keep hlt hL' hD hi hLL hB1 hc9 hs9 hgo)
      · exact lv_tableIn (off := 705) (tgt := 744) hx hb dL_law_39 (by decide +kernel) (by decide +kernel) (by decide +kernel) (by decide) (op_goBack hlt hL' hD hi hLL hB1 hc9 hs9 hgo)
      · exact lv_tableIn (off := 749) (tgt := 788) hx hb dL_law_39 (by decide +kernel) (by decide +kernel) (by decide +kernel) (by decide) (op_undo hlt hL' hD hi hLL hB1 hc9 hs9 hgo)
      · exact lv_tableIn (off := 793) (tgt := 832) hx hb dL_law_39 (by decide +kernel) (by decide +kernel) (by decide +kernel) (by decide) (op_section hlt hL' hD hi hLL hB1 hc9 hs9 hgo)
      · exact lv_tableIn (off := 861) (tgt := 900) hx hb dL_law_39 (by decide +kernel) (by decide +kernel) (by decide +kernel) (by decide) (op_waiting hlt hL' hD hi hLL hB1 hc9 hs9 hgo)
      · exact lv_tableIn (off := 929) (tgt := 968) hx hb dL_law_39 (by decide +kernel) (by decide +kernel) (by decide +kernel) (by decide) (op_deck hlt hL' hD hi hLL hB1 hc9 hs9 hgo)
      · exact lv_tableIn (off := 1009) (tgt := 1048) hx hb dL_law_39 (by decide +kernel) (by decide +kernel) (by decide +kernel) (by decide) (op_count hlt hL' hD hi hLL hB1 hc9 hs9 hgo)
      · exact lv_tableIn (off := 1065) (tgt := 1104) hx hb dL_law_39 (by decide +kernel) (by decide +kernel) (by decide +kernel) (by decide) (op_currentOf hlt hL' hD hi hLL hB1 hc9 hs9 hgo)
      · exact lv_tableIn (off := 1121) (tgt := 1160) hx hb dL_law_39 (by decide +kernel) (by decide +kernel) (by decide +kernel) (by decide) (op_setting hlt hL' hD hi hLL hB1 hc9 hs9 hgo)
      · exact lv_tableIn (off := 1177) (tgt := 1216) hx hb dL_law_39 (by decide +kernel) (by decide +kernel) (by decide +kernel) (by decide) (op_why hlt hL' hD hi hLL hB1 hc9 hs9 hgo)
      · exact lv_tableIn (off := 1190) (tgt := 1229) hx hb dL_law_39 (by decide +kernel) (by decide +kernel) (by decide +kernel) (by decide) (op_weakest hlt hL' hD hi hLL hB1 hc9 hs9 hgo)
      · exact lv_tableIn (off := 1203) (tgt := 1242) hx hb dL_law_39 (by decide +kernel) (by decide +kernel) (by decide +kernel) (by decide) (op_ifLoaded hlt hL' hD hi hLL hB1 hc9 hs9 hgo)
      · exact lv_tableIn (off := 1259) (tgt := 1298) hx hb dL_law_39 (by decide +kernel) (by decide +kernel) (by decide +kernel) (by decide) (op_bestHour hlt hL' hD hi hLL hB1 hc9 hs9 hgo)
      · exact lv_tableIn (off := 1272) (tgt := 1311) hx hb dL_law_39 (by decide +kernel) (by decide +kernel) (by decide +kernel) (by decide) (op_leastList hlt hL' hD hi hLL hB1 hc9 hs9 hgo)
      · exact lv_tableIn (off := 1328) (tgt := 1367) hx hb dL_law_39 (by decide +kernel) (by decide +kernel) (by decide +kernel) (by decide) (op_lasts hlt hL' hD hi hLL hB1 hc9 hs9 hgo)
      · exact lv_tableIn (off := 1341) (tgt := 1380) hx hb dL_law_39 (by decide +kernel) (by decide +kernel) (by decide +kernel) (by decide) (op_needed hlt hL' hD hi hLL hB1 hc9 hs9 hgo)
      · exact lv_tableIn (off := 1354) (tgt := 1393) hx hb dL_law_39 (by decide +kernel) (by decide +kernel) (by decide +kernel) (by decide) (op_wornShare hlt hL' hD hi hLL hB1 hc9 hs9 hgo)
      · exact lv_tableIn (off := 1397) (tgt := 1436) hx hb dL_law_39 (by decide +kernel) (by decide +kernel) (by decide +kernel) (by decide) (op_carriedShare hlt hL' hD hi hLL hB1 hc9 hs9 hgo)
      · exact lv_tableIn (off := 1438) (tgt := 1477) hx hb dL_law_39 (by decide +kernel) (by decide +kernel) (by decide +kernel) (by decide) (op_digest hlt hL' hD hi hLL hB1 hc9 hs9 hgo)
      · refine lv_tableOut (tgt := 1491) hx hb dL_law_39 (Or.inr (by decide +kernel)) (by decide) ?_
        refine W.widen (k := 200 + k + 1) (n := 2500 + 6 * k + 6) (by omega) (by omega) ?_
        exact hgo _ _ _ _ _ _ _ _ _ _ _ _ _ _ _ ⟨hD.1, PR_mono (by omega) hD.2.1, hD.2.2⟩
    · refine lv_icmp_gt (tgt := 1497) hx hb dL_law_29 (by decide) (fun _ => ?_) (fun h => absurd (head_t (k := k) hLL (by omega) (by omega)) h)
      exact hQ _ _ _ _ _ hS (by omega) (by omega)

set_option maxHeartbeats 8000000 in
set_option maxRecDepth 100000 in
/-- THE LAW, from its entry -/
theorem whole_start {p : Program} {e : Env} {s : State} {m : MethodId} {below : List Frame} {meth : Method} {c : Code} (l : Launch) (hflags : l.flags = flags0) {b L : Nat} {xs : Nat → Int32} (hL : L ≤ 2048) (C0 : lw_At p s m meth c b L xs) : W p l e room_1 s m #[Value.ref b] below meth c s.heap [] 0 0 (lw_Z below #[Value.ref b] s) (entryFrame m ([Value.ref b] : List Value).toArray 9) := by
  obtain ⟨hx, hb, hr, hml, hown, hts, hX, hbl, hlocks, hgv⟩ := id C0
  have hlt : l.stackTraces = false := by
    unfold Launch.stackTraces
    rw [hflags]
    decide +kernel
  have hq := flat_of_before _ hgv
  have hA : ∀ q : Nat, s.heap.size ≤ q → AA s q := fun _ h => h
  obtain ⟨c0, i0, hKn0⟩ := u_known (C := RX0) (T := TX0) (N := 3) (n := 3) hts in_uX0 (hts (.instantiable RX0 3) (by decide +kernel))
  obtain ⟨c1, i1, hKn1⟩ := u_known (C := RX1) (T := TX1) (N := 4) (n := 4) hts in_uX1 (hts (.instantiable RX1 4) (by decide +kernel))
  obtain ⟨c2, i2, hKn2⟩ := u_known (C := RX2) (T := TX2) (N := 4) (n := 4) hts in_uX2 (hts (.instantiable RX2 4) (by decide +kernel))
  obtain ⟨c3, i3, hKn3⟩ := u_known (C := RX3) (T := TX3) (N := 14) (n := 14) hts in_uX3 (hts (.instantiable RX3 14) (by decide +kernel))
  obtain ⟨c4, i4, hKn4⟩ := u_known (C := RX4) (T := TX4) (N := 4) (n := 4) hts in_uX4 (hts (.instantiable RX4 4) (by decide +kernel))
  obtain ⟨c5, i5, hKn5⟩ := u_known (C := RX5) (T := TX5) (N := 6) (n := 6) hts in_uX5 (hts (.instantiable RX5 6) (by decide +kernel))
  obtain ⟨c6, i6, hKn6⟩ := u_known (C := RX6) (T := TX6) (N := 16) (n := 16) hts in_uX6 (hts (.instantiable RX6 16) (by decide +kernel))
  obtain ⟨dC, dI, hKc⟩ : ∃ (dC : Nat → ClassId) (dI : Nat → Nat → Nat), ∀ (k : Nat) (q : vw_C), vwCl[k]? = some q → u_Kn s q.1 q.2.1 q.2.2 (dC k) (dI k) := by
    refine ⟨fun k => match k with | 0 => c0 | 1 => c1 | 2 => c2 | 3 => c3 | 4 => c4 | 5 => c5 | _ => c6, fun k => match k with | 0 => i0 | 1 => i1 | 2 => i2 | 3 => i3 | 4 => i4 | 5 => i5 | _ => i6, ?_⟩
    intro k q hq
    match k, hq with
    | 0, hq => cases hq; exact hKn0
    | 1, hq => cases hq; exact hKn1
    | 2, hq => cases hq; exact hKn2
    | 3, hq => cases hq; exact hKn3
    | 4, hq => cases hq; exact hKn4
    | 5, hq => cases hq; exact hKn5
    | 6, hq => cases hq; exact hKn6
    | k + 7, hq => simp [vwCl] at hq
  obtain ⟨cA, kA, comp, a1, a2, a3⟩ := Cond.arrayClass_spec (args := #[Value.ref b]) (first := s) (o := none) (s := s) (idx := []) (type := .int) (hts (.arrayClass .int) (by decide +kernel))
  obtain ⟨compS, cS, kS, b1, -, b3, b4, b5⟩ := Cond.arrayOver_spec (args := #[Value.ref b]) (first := s) (o := none) (s := s) (idx := []) (n := "CableFerry$State") (hts (.arrayOver (.object "CableFerry$State")) (by decide +kernel))
  obtain ⟨G, hG⟩ : ∃ G : eG, G = ((dC, dI), cA, cS) := ⟨_, rfl⟩
  have hE : EV G s := by
    rw [hG]
    refine ⟨⟨hKc, fun k q h9 => ?_⟩, fun q h9 => va_Nw.of rfl (hts _ (nest_ok q h9))⟩
    match k, h9 with
    | 0, h9 => cases h9; exact ⟨fun n z => ⟨(fun k h => by cases h), kA, a2, comp, a3⟩, a1⟩
    | 1, h9 => cases h9; exact ⟨fun n z => ⟨(fun k h => by cases h), kS, b3, compS, b4⟩, ⟨kS, compS, b3, b4, b1, b5⟩⟩
    | k + 2, h9 => simp at h9
  have hJ : JX s s.heap := jx_start hts hq
  have hF0 : FX s.heap.size s s.heap := by
    obtain ⟨t, h1, h2⟩ := tab_FIRST (A := fun q => s.heap.size ≤ q) hts hq (fun a ha => Nat.not_le.mpr ha)
    exact ⟨va_AO.of (hts (.arrayOver (.object "CableFerry$State")) (by decide +kernel)), va_Nw.of rfl (hts (.fieldLinkNest RX3 18 "CableFerry" "FIRST_SETTINGS" "[I" RX5) (by decide +kernel)), t, h1, h2⟩
  have htl : ∀ w ∈ wsL_law, w.before #[Value.ref b] s = true := fun w h => hts w (wsL_law_in w h)
  have hS : va_S (AA s) s.heap s.heap [] := va_S.rf
  have hP : va_P G.1 vwCl [] s.heap := P_nil
  have hD : va_D (AA s) [] := ⟨fun i j p q h => by simp at h, fun k q h => by simp at h⟩
  have hl := lv_entry ([.ref b]) (n := 9) (Nat.le_of_ble_eq_true rfl)
  rw [lg_entry_eq]
  generalize (lg_sl ([.ref b]) ++ List.replicate (9 - (lg_sl ([.ref b])).length) Slot.unset).toArray = ls at hl ⊢
  have hl : lv_has ls 9 [(0, .ref b)] := hl
  refine va_new (ci := 5) (fs := [.null, .null, .null, .null, .null, .int (nI 0)]) (C := RX5) (T := TX5) (N := 6) hx hb hts in_uX5 tyX5 tyX5_ok hown (hts (.classLink RL 8 RX5) (by decide +kernel)) (hts (.instantiable RX5 6) (by decide +kernel)) (hts (.initialized RX5) (by decide +kernel)) hE.1 hP hD hS hA rfl (fun j hj => by rcases (show j = 0 ∨ j = 1 ∨ j = 2 ∨ j = 3 ∨ j = 4 ∨ j = 5 by omega) with rfl | rfl | rfl | rfl | rfl | rfl <;> rfl) (Nat.le_of_ble_eq_true rfl) (Nat.le_of_ble_eq_true rfl) dL_law_0 (fun q0 H hP hD hS => ?_)
  refine W.widen (k := 1) (n := 6) (Nat.le_of_ble_eq_true rfl) (Nat.le_of_ble_eq_true rfl) ?_
  refine lv_dup hx hb dL_law_3 rfl ?_
  have hFc := frC (w := []) hD hS hA
  refine mcall (st1 := [.ref q0]) (va_runI (As := []) (rest := [.ref q0]) ⟨hx, hb, hml, hown, htl⟩ (c_X5_init l G s.heap.size q0 H.size (D_last (w := []) hD) hS.1) (cwI 0 htl gL_law_X5_init rfl rfl rfl (hts (.initialized RX5) (by decide +kernel)) (hts (.methodLink RL 76 yX5_init) (by decide +kernel)) (hts (.instanceMethod yX5_init) (by decide +kernel)) rfl (by decide +kernel) ⟨Nat.le_of_ble_eq_true rfl, Nat.le_of_ble_eq_true rfl⟩) (PF.preS hE (hF0.kept (fun a h1 h2 => hS.2.1 a h1 h2)) ⟨rfl, P_last (w := []) hP⟩) rfl rfl hl.1 rfl (lv_room (Nat.le_of_ble_eq_true rfl)) dL_law_4 ⟨Nat.le_of_ble_eq_true rfl, Nat.le_of_ble_eq_true rfl⟩) hS (fun x _ h => hFc x h) hFc rfl (fun H1 locs1 hB hz1 hk1 hS => ?_)
  refine W.widen (k := 158) (n := 1312) (Nat.le_of_ble_eq_true rfl) (Nat.le_of_ble_eq_true rfl) ?_
  obtain ⟨an, tn, sn, ha, sv, aa, oa, co, hP1, hD1⟩ := hB
  obtain ⟨hP, hD⟩ := jnC (w := []) hP hD hFc hk1 hP1 hD1
  clear hP1 hD1 hFc
  generalize H1 = H at hP hS ⊢
  obtain ⟨WC, hWC⟩ : ∃ WC : va_W, WC = ([(q0, .inr (5, [.ref (an 0), .ref (tn 0), .ref (sn 0), .ref ha, .ref oa, .int (nI 0)]))] ++ (cST G an fI (nI 0) (nI 0) (fun _ _ => nI 0) ++ (cST G tn fI (nI 0) (nI 0) (fun _ _ => nI 0) ++ (cST G sn fI (nI 0) (nI 0) (fun _ _ => nI 0) ++ (cHI G ha sv 0 0 (fun k => aa k 0) ++ (cST G (aa 0) fI (nI 0) (nI 0) (fun _ _ => nI 0) ++ (cST G (aa 1) fI (nI 0) (nI 0) (fun _ _ => nI 0) ++ (cST G (aa 2) fI (nI 0) (nI 0) (fun _ _ => nI 0) ++ (cST G (aa 3) fI (nI 0) (nI 0) (fun _ _ => nI 0) ++ (cST G (aa 4) fI (nI 0) (nI 0) (fun _ _ => nI 0) ++ (cST G (aa 5) fI (nI 0) (nI 0) (fun _ _ => nI 0) ++ ([(oa, .inr (2, [.ref co, .int (nI 0), .int (nI 0), .int (nI 0)])), (co, .inl (G.2.1, 60, .inl (fun _ => nI 0)))] ++ ([]))))))))))))) := ⟨_, rfl⟩
  have hXC : XS G q0 fI fI (fun _ => fI) 0 0 0 (fun _ => nI 0) (nI 0) WC := by
    rw [hWC]
    exact ⟨an, tn, sn, nI 0, nI 0, fun _ _ => nI 0, fI, nI 0, nI 0, fun _ _ => nI 0, nI 0, nI 0, fun _ _ => nI 0, ha, sv, fun k => aa k 0, aa, fun _ => nI 0, fun _ => nI 0, fun _ _ _ => nI 0, oa, co, rfl, cpI _, okf_shp (by decide) okI, cpI _, fun _ _ => cpI _, fun _ _ => rfl⟩
  have hP : va_P G.1 vwCl WC H := by rw [hWC]; exact hP
  have hD : va_D (AA s) WC := by rw [hWC]; exact hD
  clear hWC
  refine lv_astore_n (lv' := [(1, .ref q0), (0, .ref b)]) hx hb dL_law_7 rfl hl (by decide) rfl (fun ls hl => ?_)
  refine va_new (ci := 6) (fs := [.null, .null, .null, .int (nI 0), .null, .int (nI 0), .null, .int (nI 0), .int (nI 0), .int (nI 0), .int (nI 0), .int (nI 0), .int (nI 0), .int (nI 0), .int (nI 0), .long 0]) (C := RX6) (T := TX6) (N := 16) hx hb hts in_uX6 tyX6 tyX6_ok hown (hts (.classLink RL 77 RX6) (by decide +kernel)) (hts (.instantiable RX6 16) (by decide +kernel)) (hts (.initialized RX6) (by decide +kernel)) hE.1 hP hD hS hA rfl (fun j hj => by rcases (show j = 0 ∨ j = 1 ∨ j = 2 ∨ j = 3 ∨ j = 4 ∨ j = 5 ∨ j = 6 ∨ j = 7 ∨ j = 8 ∨ j = 9 ∨ j = 10 ∨ j = 11 ∨ j = 12 ∨ j = 13 ∨ j = 14 ∨ j = 15 by omega) with rfl | rfl | rfl | rfl | rfl | rfl | rfl | rfl | rfl | rfl | rfl | rfl | rfl | rfl | rfl | rfl <;> rfl) (Nat.le_of_ble_eq_true rfl) (Nat.le_of_ble_eq_true rfl) dL_law_8 (fun q8 H hP hD hS => ?_)
  refine W.widen (k := 159) (n := 1328) (Nat.le_of_ble_eq_true rfl) (Nat.le_of_ble_eq_true rfl) ?_
  refine lv_dup hx hb dL_law_11 rfl ?_
  have hFc := frC hD hS hA
  refine mcall (st1 := [.ref q8]) (va_runI (As := []) (rest := [.ref q8]) ⟨hx, hb, hml, hown, htl⟩ (c_X6_init l G q8 H.size) (cwI 0 htl gL_law_X6_init rfl rfl rfl (hts (.initialized RX6) (by decide +kernel)) (hts (.methodLink RL 79 yX6_init) (by decide +kernel)) (hts (.instanceMethod yX6_init) (by decide +kernel)) rfl (by decide +kernel) ⟨Nat.le_of_ble_eq_true rfl, Nat.le_of_ble_eq_true rfl⟩) (PC.preS hE ⟨rfl, P_last hP⟩) rfl rfl hl.1 rfl (lv_room (Nat.le_of_ble_eq_true rfl)) dL_law_12 ⟨Nat.le_of_ble_eq_true rfl, Nat.le_of_ble_eq_true rfl⟩) hS (fun x _ h => hFc x h) hFc rfl (fun H1 locs1 hB hz1 hk1 hS => ?_)
  refine W.widen (k := 164) (n := 2261) (Nat.le_of_ble_eq_true rfl) (Nat.le_of_ble_eq_true rfl) ?_
  obtain ⟨m1, m2, m3, m4, m5, hP1, hD1⟩ := hB
  obtain ⟨hP, hD⟩ := jnC hP hD hFc hk1 hP1 hD1
  clear hP1 hD1 hFc
  generalize H1 = H at hP hS ⊢
  obtain ⟨MC, hMC⟩ : ∃ MC : va_W, MC = [(q8, .inr (6, [.ref m1, .ref m2, .ref m3, .int (nI 0), .ref m4, .int (nI 0), .ref m5, .int (nI 0), .int (nI 0), .int (nI 0), .int (nI 0), .int (nI 0), .int (nI 0), .int (nI 0), .int (nI 0), .long 0])), (m1, .inl (G.2.1, 97, .inl fI)), (m2, .inl (G.2.1, 97, .inl (fun _ => nI 0))), (m3, .inl (G.2.1, 582, .inl (fun _ => nI 0))), (m4, .inl (G.2.1, 97, .inl (fun _ => nI 0))), (m5, .inl (G.2.1, 60, .inl (fun _ => nI 0)))] := ⟨_, rfl⟩
  have hRM : RS G q8 fI fI (fun _ => fI) 0 0 0 (fun _ => nI 0) (nI 0) (nI 0) MC := by
    rw [hMC]
    exact ⟨m1, m2, m3, m4, m5, fun _ => nI 0, fun _ => nI 0, fun _ => nI 0, 0, nI 0, nI 0, nI 0, nI 0, nI 0, 0, rfl, fun h => absurd h (by decide +kernel), fun j hj => absurd hj (Nat.not_lt_zero _)⟩
  have hP : va_P G.1 vwCl (WC ++ MC) H := by rw [hMC]; exact hP
  have hD : va_D (AA s) (WC ++ MC) := by rw [hMC]; exact hD
  refine lv_astore_n (lv' := [(2, .ref q8), (1, .ref q0), (0, .ref b)]) hx hb dL_law_15 rfl hl (by decide) rfl (fun ls hl => ?_)
  refine lv_iconst (v := nI 1) hx hb dL_law_16 (by decide +kernel) ?_
  refine va_newa (atype := .long) (ty := .long) (N' := 1) (a0 := (1, .inr (.inl (fun _ => 0)))) hx hb (hts (.arrayClass .long) (by decide +kernel)) rfl hE.1 hP hD hS hA (fun _ => rfl) (nI_pos (by decide)) (nI_clamp (by decide)) (by decide) (Nat.le_of_ble_eq_true rfl) (Nat.le_of_ble_eq_true rfl) dL_law_17 (fun q17 cJ H hN hP hD hS => ?_)
  refine W.widen (k := 200) (n := 2500) (Nat.le_of_ble_eq_true rfl) (Nat.le_of_ble_eq_true rfl) ?_
  have hKJ : va_K G.1 vwCl [(cJ, .long)] s := hN.sub [2] rfl
  refine lv_astore_n (lv' := [(3, .ref q17), (2, .ref q8), (1, .ref q0), (0, .ref b)]) hx hb dL_law_19 rfl hl (by decide) rfl (fun ls hl => ?_)
  refine lv_iconst (v := nI 0) hx hb dL_law_20 (by decide +kernel) ?_
  refine lv_istore (lv' := [(4, .int (nI 0)), (3, .ref q17), (2, .ref q8), (1, .ref q0), (0, .ref b)]) hx hb dL_law_21 hl (by decide) rfl (fun ls hl => ?_)
  have hP9 : va_P G.1 vwCl ([(q17, .inl (cJ, 1, .inr (.inl (fun _ => 0))))] ++ (WC ++ MC)) H := P_perm List.perm_append_comm hP
  have hD9 : va_D (AA s) ([(q17, .inl (cJ, 1, .inr (.inl (fun _ => 0))))] ++ (WC ++ MC)) := D_perm List.perm_append_comm hD
  have hPR : PR (10000 * 0) fI fI (fun _ => fI) 0 0 0 (fun _ => nI 0) (nI 0) := ⟨okI, okI, fun _ _ => okI, by decide, by decide, ⟨by decide, fun k hk => absurd hk (Nat.not_lt_zero _)⟩, Or.inl rfl⟩
  have hgo : ∀ (H : Heap) (locs : List Loc) (ls : Array Slot) (cells slots : Nat), va_S (AA s) s.heap H locs → cells ≤ 601024 → slots ≤ 7293034 → W p l e room_1 s m #[Value.ref b] below meth c H locs cells slots (lw_Z below #[Value.ref b] s) (F0 m 1497 ls []) := by
    intro H locs ls cells slots hS h1 h2
    refine va_forget hS.2.2 ?_
    refine W.widen (k := 601024) (n := 7293034) h1 h2 ?_
    refine lv_iconst (v := 1) hx hb dL_law_1497 (by decide +kernel) ?_
    refine W.base ?_
    exact lw_ret (Drawn.sameBut.refl s.drawn lw_cs) hx hb hr hlocks dL_law_1498
  exact law_loop hlt ⟨hx, hb, hml, hown, htl, hE, hJ, hKJ, hX, hbl⟩ hL hgo 513 0 (by omega) fI fI (fun _ => fI) 0 0 0 (fun _ => nI 0) (nI 0) (nI 0) (fun _ => 0) WC MC H _ ls ⟨hXC, hPR, hRM, hP9, hD9, hS, lv_sub hl [4, 3, 2, 1, 0] rfl⟩

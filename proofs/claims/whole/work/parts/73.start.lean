theorem in_uX0 : ∀ w ∈ u_ws RX0 TX0 3, w ∈ lw_tbl := fun w h => inX0 w ((show ∀ w ∈ u_ws RX0 TX0 3, w ∈ wsX00 by decide +kernel) w h)
theorem in_uX1 : ∀ w ∈ u_ws RX1 TX1 4, w ∈ lw_tbl := fun w h => inX1 w ((show ∀ w ∈ u_ws RX1 TX1 4, w ∈ wsX10 by decide +kernel) w h)
theorem in_uX2 : ∀ w ∈ u_ws RX2 TX2 4, w ∈ lw_tbl := fun w h => inX2 w ((show ∀ w ∈ u_ws RX2 TX2 4, w ∈ wsX20 by decide +kernel) w h)
theorem in_uX3 : ∀ w ∈ u_ws RX3 TX3 14, w ∈ lw_tbl := fun w h => inX3 w ((show ∀ w ∈ u_ws RX3 TX3 14, w ∈ wsX30 by decide +kernel) w h)
theorem in_uX4 : ∀ w ∈ u_ws RX4 TX4 4, w ∈ lw_tbl := fun w h => inX4 w ((show ∀ w ∈ u_ws RX4 TX4 4, w ∈ wsX40 by decide +kernel) w h)
theorem in_uX5 : ∀ w ∈ u_ws RX5 TX5 6, w ∈ lw_tbl := fun w h => inX5 w ((show ∀ w ∈ u_ws RX5 TX5 6, w ∈ wsX50 by decide +kernel) w h)
theorem in_uX6 : ∀ w ∈ u_ws RX6 TX6 16, w ∈ lw_tbl := fun w h => inX6 w ((show ∀ w ∈ u_ws RX6 TX6 16, w ∈ wsX60 by decide +kernel) w h)
/-- a static row of three numbers, at a start -/
theorem tab_start {s : State} {b : Addr} {nm : String} {g : Nat → Nat} {A : Nat → Prop} (hts : ∀ w ∈ lw_tbl, w.before #[Value.ref b] s = true) (hq : ∀ w ∈ flatC (Jvm.Cond.and given_1 narrow_1), w.before #[Value.ref b] s = true) (hA : ∀ a : Nat, a < s.heap.size → ¬ A a)
    (h1 : Cond.laysStatic RX5 nm "[I" ∈ lw_tbl) (h2 : Cond.arrayOf (Term.static RX5 nm "[I") .int ∈ flatC (Jvm.Cond.and given_1 narrow_1)) (h3 : Cond.eq (Term.length (Term.static RX5 nm "[I")) (.int (Int32.ofNat 3)) ∈ flatC (Jvm.Cond.and given_1 narrow_1))
    (h4 : ∀ j, j < 3 → Cond.eq (Term.elem (Term.static RX5 nm "[I") (.int (Int32.ofNat j))) (.int (nI (g j))) ∈ flatC (Jvm.Cond.and given_1 narrow_1)) : ∃ t : Nat, va_Z RX5 nm "[I" (.ref t) A s s.heap ∧ va_T .int t 3 (fun j => .int (nI (g j))) A s s.heap := by
  obtain ⟨t, e, hT⟩ := va_Tof (tm := Term.static RX5 nm "[I") (ty := .int) (N := 3) (f := fun j => .int (nI (g j))) (A := A) (by decide) (hq _ h2) (va_eqt (hq _ h3)) (fun j hj => va_eqt (hq _ (h4 j hj))) hA
  exact ⟨t, va_Zof (hts _ h1) (hts (.initialized RX5) (by decide +kernel)) e hA, hT⟩
theorem three {P : Nat → Prop} (h0 : P 0) (h1 : P 1) (h2 : P 2) : ∀ j, j < 3 → P j := by
  intro j hj
  rcases (show j = 0 ∨ j = 1 ∨ j = 2 by omega) with rfl | rfl | rfl
  · exact h0
  · exact h1
  · exact h2
theorem tab_LEAST {s : State} {b : Addr} {A : Nat → Prop} (hts : ∀ w ∈ lw_tbl, w.before #[Value.ref b] s = true) (hq : ∀ w ∈ flatC (Jvm.Cond.and given_1 narrow_1), w.before #[Value.ref b] s = true) (hA : ∀ a : Nat, a < s.heap.size → ¬ A a) : ∃ t : Nat, va_Z RX5 "LEAST_SETTINGS" "[I" (.ref t) A s s.heap ∧ va_T .int t 3 (fun j => .int (nI (stLo j))) A s s.heap :=
  tab_start hts hq hA (by decide +kernel) (by decide +kernel) (by decide +kernel) (three (by decide +kernel) (by decide +kernel) (by decide +kernel))
theorem tab_GREATEST {s : State} {b : Addr} {A : Nat → Prop} (hts : ∀ w ∈ lw_tbl, w.before #[Value.ref b] s = true) (hq : ∀ w ∈ flatC (Jvm.Cond.and given_1 narrow_1), w.before #[Value.ref b] s = true) (hA : ∀ a : Nat, a < s.heap.size → ¬ A a) : ∃ t : Nat, va_Z RX5 "GREATEST_SETTINGS" "[I" (.ref t) A s s.heap ∧ va_T .int t 3 (fun j => .int (nI (stHi j))) A s s.heap :=
  tab_start hts hq hA (by decide +kernel) (by decide +kernel) (by decide +kernel) (three (by decide +kernel) (by decide +kernel) (by decide +kernel))
theorem tab_FIRST {s : State} {b : Addr} {A : Nat → Prop} (hts : ∀ w ∈ lw_tbl, w.before #[Value.ref b] s = true) (hq : ∀ w ∈ flatC (Jvm.Cond.and given_1 narrow_1), w.before #[Value.ref b] s = true) (hA : ∀ a : Nat, a < s.heap.size → ¬ A a) : ∃ t : Nat, va_Z RX5 "FIRST_SETTINGS" "[I" (.ref t) A s s.heap ∧ va_T .int t 3 (fun j => .int (nI (fiS j))) A s s.heap :=
  tab_start hts hq hA (by decide +kernel) (by decide +kernel) (by decide +kernel) (three (by decide +kernel) (by decide +kernel) (by decide +kernel))
theorem strs_ok : strX.all (fun q => decide (Cond.stringRef RX5 q.1 q.2 ∈ lw_tbl) && decide (Cond.exactly (Term.string RX5 q.1) "java/lang/String" ∈ flatC (Jvm.Cond.and given_1 narrow_1))) = true := by decide +kernel
theorem nest_ok : ∀ q ∈ nestL, Cond.methodLinkNest q.1 q.2.1 q.2.2 RX5 ∈ lw_tbl := by decide +kernel
theorem exc_ok : ∀ E ∈ excX, Cond.castable E E ∈ lw_tbl := by decide +kernel
theorem dec_ok : ∀ x ∈ decX, Cond.declares x ∈ lw_tbl := by decide +kernel
/-- what the tables say of the statics, the strings, the exceptions -/
theorem jx_start {s : State} {b : Addr} (hts : ∀ w ∈ lw_tbl, w.before #[Value.ref b] s = true) (hq : ∀ w ∈ flatC (Jvm.Cond.and given_1 narrow_1), w.before #[Value.ref b] s = true) : JX s s.heap := by
  have hA : ∀ a : Nat, a < s.heap.size → ¬ noA a := fun _ _ h => h
  refine ⟨vx_Zqof (hts (.laysStatic Bundle.tN "UNASSIGNED_STACK" Bundle.steD) (by decide +kernel)) (hts (.initialized Bundle.tN) (by decide +kernel)) (hq (.isRef (.static Bundle.tN "UNASSIGNED_STACK" Bundle.steD)) (by decide +kernel)) hA, vx_Zqof (hts (.laysStatic Bundle.tN "SUPPRESSED_SENTINEL" Bundle.listD) (by decide +kernel)) (hts (.initialized Bundle.tN) (by decide +kernel)) (hq (.isRef (.static Bundle.tN "SUPPRESSED_SENTINEL" Bundle.listD)) (by decide +kernel)) hA,
    fun q hq9 => ?_, fun E hE => va_Nw.of rfl (hts _ (exc_ok E hE)), ⟨fun x hx => va_Nw.of rfl (hts _ (dec_ok x hx)), va_Nc.of (hq (.not (.castable "java/lang/IllegalArgumentException" "java/lang/IndexOutOfBoundsException")) (by decide +kernel)), va_Nc.of (hq (.not (.castable "java/lang/IllegalStateException" "java/lang/IndexOutOfBoundsException")) (by decide +kernel)), va_Nc.of (hq (.not (.castable "java/lang/IllegalStateException" "java/lang/IllegalArgumentException")) (by decide +kernel))⟩, fun q hq9 => ?_⟩
  · have h := List.all_eq_true.mp strs_ok q hq9
    rw [Bool.and_eq_true, decide_eq_true_eq, decide_eq_true_eq] at h
    obtain ⟨a, c, cell, k, q1, -⟩ := Cond.exactly_spec (args := #[Value.ref b]) (first := s) (o := none) (s := s) (idx := []) (t := Term.string RX5 q.1) (cls := "java/lang/String") (hq _ h.2)
    exact ⟨a, vk_R.of (hts _ h.1) q1⟩
  · have h9 : q = ("LEAST_SETTINGS", stLo) ∨ q = ("GREATEST_SETTINGS", stHi) ∨ q = ("FIRST_SETTINGS", fiS) := by simpa [setX] using hq9
    rcases h9 with rfl | rfl | rfl
    · exact tab_LEAST hts hq hA
    · exact tab_GREATEST hts hq hA
    · exact tab_FIRST hts hq hA
set_option maxHeartbeats 8000000 in
set_option maxRecDepth 100000 in
/-- THE LAW, from its entry -/
theorem whole_start {p : Program} {e : Env} {s : State} {m : MethodId} {below : List Frame} {meth : Method} {c : Code} (l : Launch) (hflags : l.flags = flags0) {b L : Nat} {xs : Nat → Int32} (hL : L ≤ 2048) (C0 : lw_At p s m meth c b L xs) : W p l e room_1 s m #[Value.ref b] below meth c s.heap [] 0 0 (lw_Z below #[Value.ref b] s) (entryFrame m ([Value.ref b] : List Value).toArray 9) := by
  obtain ⟨hx, hb, hr, hml, hown, hts, hX, hbl, hlocks, hgv⟩ := id C0
  have hlt : l.stackTraces = false := by
    unfold Launch.stackTraces
    rw [hflags]
    decide +kernel
  have hq := flat_of_before _ hgv
  have hA : ∀ q : Nat, s.heap.size ≤ q → AA s q := fun _ h => h
  obtain ⟨c0, i0, hKn0⟩ := u_known (C := RX0) (T := TX0) (N := 3) (n := 3) hts in_uX0 (hts (.instantiable RX0 3) (by decide +kernel))
  obtain ⟨c1, i1, hKn1⟩ := u_known (C := RX1) (T := TX1) (N := 4) (n := 4) hts in_uX1 (hts (.instantiable RX1 4) (by decide +kernel))
  obtain ⟨c2, i2, hKn2⟩ := u_known (C := RX2) (T := TX2) (N := 4) (n := 4) hts in_uX2 (hts (.instantiable RX2 4) (by decide +kernel))
  obtain ⟨c3, i3, hKn3⟩ := u_known (C := RX3) (T := TX3) (N := 14) (n := 14) hts in_uX3 (hts (.instantiable RX3 14) (by decide +kernel))
  obtain ⟨c4, i4, hKn4⟩ := u_known (C := RX4) (T := TX4) (N := 4) (n := 4) hts in_uX4 (hts (.instantiable RX4 4) (by decide +kernel))
  obtain ⟨c5, i5, hKn5⟩ := u_known (C := RX5) (T := TX5) (N := 6) (n := 6) hts in_uX5 (hts (.instantiable RX5 6) (by decide +kernel))
  obtain ⟨c6, i6, hKn6⟩ := u_known (C := RX6) (T := TX6) (N := 16) (n := 16) hts in_uX6 (hts (.instantiable RX6 16) (by decide +kernel))
  obtain ⟨dC, dI, hKc⟩ : ∃ (dC : Nat → ClassId) (dI : Nat → Nat → Nat), ∀ (k : Nat) (q : vw_C), vwCl[k]? = some q → u_Kn s q.1 q.2.1 q.2.2 (dC k) (dI k) := by
    refine ⟨fun k => match k with | 0 => c0 | 1 => c1 | 2 => c2 | 3 => c3 | 4 => c4 | 5 => c5 | _ => c6, fun k => match k with | 0 => i0 | 1 => i1 | 2 => i2 | 3 => i3 | 4 => i4 | 5 => i5 | _ => i6, ?_⟩
    intro k q hq
    match k, hq with
    | 0, hq => cases hq; exact hKn0
    | 1, hq => cases hq; exact hKn1
    | 2, hq => cases hq; exact hKn2
    | 3, hq => cases hq; exact hKn3
    | 4, hq => cases hq; exact hKn4
    | 5, hq => cases hq; exact hKn5
    | 6, hq => cases hq; exact hKn6
    | k + 7, hq => simp [vwCl] at hq
  obtain ⟨cA, kA, comp, a1, a2, a3⟩ := Cond.arrayClass_spec (args := #[Value.ref b]) (first := s) (o := none) (s := s) (idx := []) (type := .int) (hts (.arrayClass .int) (by decide +kernel))
  obtain ⟨compS, cS, kS, b1, -, b3, b4, b5⟩ := Cond.arrayOver_spec (args := #[Value.ref b]) (first := s) (o := none) (s := s) (idx := []) (n := "CableFerry$State") (hts (.arrayOver (.object "CableFerry$State")) (by decide +kernel))
  obtain ⟨G, hG⟩ : ∃ G : eG, G = ((dC, dI), cA, cS) := ⟨_, rfl⟩
  have hE : EV G s := by
    rw [hG]
    refine ⟨⟨hKc, fun k q h9 => ?_⟩, fun q h9 => va_Nw.of rfl (hts _ (nest_ok q h9))⟩
    match k, h9 with
    | 0, h9 => cases h9; exact ⟨fun n z => ⟨(fun k h => by cases h), kA, a2, comp, a3⟩, a1⟩
    | 1, h9 => cases h9; exact ⟨fun n z => ⟨(fun k h => by cases h), kS, b3, compS, b4⟩, ⟨kS, compS, b3, b4, b1, b5⟩⟩
    | k + 2, h9 => simp at h9
  have hJ : JX s s.heap := jx_start hts hq
  have hF0 : FX s.heap.size s s.heap := by
    obtain ⟨t, h1, h2⟩ := tab_FIRST (A := fun q => s.heap.size ≤ q) hts hq (fun a ha => Nat.not_le.mpr ha)
    exact ⟨va_AO.of (hts (.arrayOver (.object "CableFerry$State")) (by decide +kernel)), va_Nw.of rfl (hts (.fieldLinkNest RX3 18 "CableFerry" "FIRST_SETTINGS" "[I" RX5) (by decide +kernel)), t, h1, h2⟩
  have htl : ∀ w ∈ wsL_law, w.before #[Value.ref b] s = true := fun w h => hts w (wsL_law_in w h)
  have hS : va_S (AA s) s.heap s.heap [] := va_S.rf
  have hP : va_P G.1 vwCl [] s.heap := P_nil
  have hD : va_D (AA s) [] := ⟨fun i j p q h => by simp at h, fun k q h => by simp at h⟩
  have hl := lv_entry ([.ref b]) (n := 9) (Nat.le_of_ble_eq_true rfl)
  rw [lg_entry_eq]
  generalize (lg_sl ([.ref b]) ++ List.replicate (9 - (lg_sl ([.ref b])).length) Slot.unset).toArray = ls at hl ⊢
  have hl : lv_has ls 9 [(0, .ref b)] := hl
  refine va_new (ci := 5) (fs := [.null, .null, .null, .null, .null, .int (nI 0)]) (C := RX5) (T := TX5) (N := 6) hx hb hts in_uX5 tyX5 tyX5_ok hown (hts (.classLink RL 8 RX5) (by decide +kernel)) (hts (.instantiable RX5 6) (by decide +kernel)) (hts (.initialized RX5) (by decide +kernel)) hE.1 hP hD hS hA rfl (fun j hj => by rcases (show j = 0 ∨ j = 1 ∨ j = 2 ∨ j = 3 ∨ j = 4 ∨ j = 5 by omega) with rfl | rfl | rfl | rfl | rfl | rfl <;> rfl) (Nat.le_of_ble_eq_true rfl) (Nat.le_of_ble_eq_true rfl) dL_law_0 (fun q0 H hP hD hS => ?_)
  refine W.widen (k := 1) (n := 6) (Nat.le_of_ble_eq_true rfl) (Nat.le_of_ble_eq_true rfl) ?_
  refine lv_dup hx hb dL_law_3 rfl ?_
  have hFc := frC (w := []) hD hS hA
  refine mcall (st1 := [.ref q0]) (va_runI (As := []) (rest := [.ref q0]) ⟨hx, hb, hml, hown, htl⟩ (c_X5_init l G s.heap.size q0 H.size (D_last (w := []) hD) hS.1) (cwI 0 htl gL_law_X5_init rfl rfl rfl (hts (.initialized RX5) (by decide +kernel)) (hts (.methodLink RL 76 yX5_init) (by decide +kernel)) (hts (.instanceMethod yX5_init) (by decide +kernel)) rfl (by decide +kernel) ⟨Nat.le_of_ble_eq_true rfl, Nat.le_of_ble_eq_true rfl⟩) (PF.preS hE (hF0.kept (fun a h1 h2 => hS.2.1 a h1 h2)) ⟨rfl, P_last (w := []) hP⟩) rfl rfl hl.1 rfl (lv_room (Nat.le_of_ble_eq_true rfl)) dL_law_4 ⟨Nat.le_of_ble_eq_true rfl, Nat.le_of_ble_eq_true rfl⟩) hS (fun x _ h => hFc x h) hFc rfl (fun H1 locs1 hB hz1 hk1 hS => ?_)
  refine W.widen (k := 158) (n := 1312) (Nat.le_of_ble_eq_true rfl) (Nat.le_of_ble_eq_true rfl) ?_
  obtain ⟨an, tn, sn, ha, sv, aa, oa, co, hP1, hD1⟩ := hB
  obtain ⟨hP, hD⟩ := jnC (w := []) hP hD hFc hk1 hP1 hD1
  clear hP1 hD1 hFc
  generalize H1 = H at hP hS ⊢
  obtain ⟨WC, hWC⟩ : ∃ WC, WC = ([(q0, .inr (5, [.ref (an 0), .ref (tn 0), .ref (sn 0), .ref ha, .ref oa, .int (nI 0)]))] ++ (cST G an fI (nI 0) (nI 0) (fun _ _ => nI 0) ++ (cST G tn fI (nI 0) (nI 0) (fun _ _ => nI 0) ++ (cST G sn fI (nI 0) (nI 0) (fun _ _ => nI 0) ++ (cHI G ha sv 0 0 (fun k => aa k 0) ++ (cST G (aa 0) fI (nI 0) (nI 0) (fun _ _ => nI 0) ++ (cST G (aa 1) fI (nI 0) (nI 0) (fun _ _ => nI 0) ++ (cST G (aa 2) fI (nI 0) (nI 0) (fun _ _ => nI 0) ++ (cST G (aa 3) fI (nI 0) (nI 0) (fun _ _ => nI 0) ++ (cST G (aa 4) fI (nI 0) (nI 0) (fun _ _ => nI 0) ++ (cST G (aa 5) fI (nI 0) (nI 0) (fun _ _ => nI 0) ++ ([(oa, .inr (2, [.ref co, .int (nI 0), .int (nI 0), .int (nI 0)])), (co, .inl (G.2.1, 60, .inl (fun _ => nI 0)))] ++ ([]))))))))))))) := ⟨_, rfl⟩
  have hXC : XS G q0 fI fI (fun _ => fI) 0 0 0 (fun _ => nI 0) (nI 0) WC := by
    rw [hWC]
    exact ⟨an, tn, sn, nI 0, nI 0, fun _ _ => nI 0, fI, nI 0, nI 0, fun _ _ => nI 0, nI 0, nI 0, fun _ _ => nI 0, ha, sv, fun k => aa k 0, aa, fun _ => nI 0, fun _ => nI 0, fun _ _ _ => nI 0, oa, co, rfl, cpI _, okf_shp (by decide) okI, cpI _, fun _ _ => cpI _, fun _ _ => rfl⟩
  have hP : va_P G.1 vwCl WC H := by rw [hWC]; exact hP
  have hD : va_D (AA s) WC := by rw [hWC]; exact hD
  clear hWC
  refine lv_astore_n (lv' := [(1, .ref q0), (0, .ref b)]) hx hb dL_law_7 rfl hl (by decide) rfl (fun ls hl => ?_)
  refine va_new (ci := 6) (fs := [.null, .null, .null, .int (nI 0), .null, .int (nI 0), .null, .int (nI 0), .int (nI 0), .int (nI 0), .int (nI 0), .int (nI 0), .int (nI 0), .int (nI 0), .int (nI 0), .long 0]) (C := RX6) (T := TX6) (N := 16) hx hb hts in_uX6 tyX6 tyX6_ok hown (hts (.classLink RL 77 RX6) (by decide +kernel)) (hts (.instantiable RX6 16) (by decide +kernel)) (hts (.initialized RX6) (by decide +kernel)) hE.1 hP hD hS hA rfl (fun j hj => by rcases (show j = 0 ∨ j = 1 ∨ j = 2 ∨ j = 3 ∨ j = 4 ∨ j = 5 ∨ j = 6 ∨ j = 7 ∨ j = 8 ∨ j = 9 ∨ j = 10 ∨ j = 11 ∨ j = 12 ∨ j = 13 ∨ j = 14 ∨ j = 15 by omega) with rfl | rfl | rfl | rfl | rfl | rfl | rfl | rfl | rfl | rfl | rfl | rfl | rfl | rfl | rfl | rfl <;> rfl) (Nat.le_of_ble_eq_true rfl) (Nat.le_of_ble_eq_true rfl) dL_law_8 (fun q8 H hP hD hS => ?_)
  refine W.widen (k := 159) (n := 1328) (Nat.le_of_ble_eq_true rfl) (Nat.le_of_ble_eq_true rfl) ?_
  refine lv_dup hx hb dL_law_11 rfl ?_
  have hFc := frC hD hS hA
  refine mcall (st1 := [.ref q8]) (va_runI (As := []) (rest := [.ref q8]) ⟨hx, hb, hml, hown, htl⟩ (c_X6_init l G q8 H.size) (cwI 0 htl gL_law_X6_init rfl rfl rfl (hts (.initialized RX6) (by decide +kernel)) (hts (.methodLink RL 79 yX6_init) (by decide +kernel)) (hts (.instanceMethod yX6_init) (by decide +kernel)) rfl (by decide +kernel) ⟨Nat.le_of_ble_eq_true rfl, Nat.le_of_ble_eq_true rfl⟩) (PC.preS hE ⟨rfl, P_last hP⟩) rfl rfl hl.1 rfl (lv_room (Nat.le_of_ble_eq_true rfl)) dL_law_12 ⟨Nat.le_of_ble_eq_true rfl, Nat.le_of_ble_eq_true rfl⟩) hS (fun x _ h => hFc x h) hFc rfl (fun H1 locs1 hB hz1 hk1 hS => ?_)
  refine W.widen (k := 164) (n := 2261) (Nat.le_of_ble_eq_true rfl) (Nat.le_of_ble_eq_true rfl) ?_
  obtain ⟨m1, m2, m3, m4, m5, hP1, hD1⟩ := hB
  obtain ⟨hP, hD⟩ := jnC hP hD hFc hk1 hP1 hD1
  clear hP1 hD1 hFc
  generalize H1 = H at hP hS ⊢
  obtain ⟨MC, hMC⟩ : ∃ MC, MC = [(q8, .inr (6, [.ref m1, .ref m2, .ref m3, .int (nI 0), .ref m4, .int (nI 0), .ref m5, .int (nI 0), .int (nI 0), .int (nI 0), .int (nI 0), .int (nI 0), .int (nI 0), .int (nI 0), .int (nI 0), .long 0])), (m1, .inl (G.2.1, 97, .inl fI)), (m2, .inl (G.2.1, 97, .inl (fun _ => nI 0))), (m3, .inl (G.2.1, 582, .inl (fun _ => nI 0))), (m4, .inl (G.2.1, 97, .inl (fun _ => nI 0))), (m5, .inl (G.2.1, 60, .inl (fun _ => nI 0)))] := ⟨_, rfl⟩
  have hMr : ∃ (a1 a2 a3 a4 a5 : Nat) (th pa sn : Nat → Int32), MC = [(q8, .inr (6, [.ref a1, .ref a2, .ref a3, .int (nI 0), .ref a4, .int (nI 0), .ref a5, .int (nI 0), .int (nI 0), .int (nI 0), .int (nI 0), .int (nI 0), .int (nI 0), .int (nI 0), .int (nI 0), .long 0])), (a1, .inl (G.2.1, 97, .inl fI)), (a2, .inl (G.2.1, 97, .inl th)), (a3, .inl (G.2.1, 582, .inl pa)), (a4, .inl (G.2.1, 97, .inl sn)), (a5, .inl (G.2.1, 60, .inl (fun _ => nI 0)))] := ⟨m1, m2, m3, m4, m5, fun _ => nI 0, fun _ => nI 0, fun _ => nI 0, hMC⟩
  have hP : va_P G.1 vwCl (WC ++ MC) H := by rw [hMC]; exact hP
  have hD : va_D (AA s) (WC ++ MC) := by rw [hMC]; exact hD
  refine lv_astore_n (lv' := [(2, .ref q8), (1, .ref q0), (0, .ref b)]) hx hb dL_law_15 rfl hl (by decide) rfl (fun ls hl => ?_)
  refine lv_iconst (v := nI 1) hx hb dL_law_16 (by decide +kernel) ?_
  refine va_newa (atype := .long) (ty := .long) (N' := 1) (a0 := (1, .inr (.inl (fun _ => 0)))) hx hb (hts (.arrayClass .long) (by decide +kernel)) rfl hE.1 hP hD hS hA (fun _ => rfl) (nI_pos (by decide)) (nI_clamp (by decide)) (by decide) (Nat.le_of_ble_eq_true rfl) (Nat.le_of_ble_eq_true rfl) dL_law_17 (fun q17 cJ H hN hP hD hS => ?_)
  refine W.widen (k := 200) (n := 2500) (Nat.le_of_ble_eq_true rfl) (Nat.le_of_ble_eq_true rfl) ?_
  have hKJ : va_K G.1 vwCl [(cJ, .long)] s := hN.sub [2] rfl
  refine lv_astore_n (lv' := [(3, .ref q17), (2, .ref q8), (1, .ref q0), (0, .ref b)]) hx hb dL_law_19 rfl hl (by decide) rfl (fun ls hl => ?_)
  refine lv_iconst (v := nI 0) hx hb dL_law_20 (by decide +kernel) ?_
  refine lv_istore (lv' := [(4, .int (nI 0)), (3, .ref q17), (2, .ref q8), (1, .ref q0), (0, .ref b)]) hx hb dL_law_21 hl (by decide) rfl (fun ls hl => ?_)
  have hP9 : va_P G.1 vwCl ([(q17, .inl (cJ, 1, .inr (.inl (fun _ => 0))))] ++ (WC ++ MC)) H := P_perm List.perm_append_comm hP
  have hD9 : va_D (AA s) ([(q17, .inl (cJ, 1, .inr (.inl (fun _ => 0))))] ++ (WC ++ MC)) := D_perm List.perm_append_comm hD
  have hPR : PR (10000 * 0) fI fI (fun _ => fI) 0 0 0 (fun _ => nI 0) (nI 0) := ⟨okI, okI, fun _ _ => okI, by decide, by decide, ⟨by decide, fun k hk => absurd hk (Nat.not_lt_zero _)⟩, Or.inl rfl⟩
  have hgo : ∀ (H : Heap) (locs : List Loc) (ls : Array Slot) (cells slots : Nat), va_S (AA s) s.heap H locs → cells ≤ 601024 → slots ≤ 7293034 → W p l e room_1 s m #[Value.ref b] below meth c H locs cells slots (lw_Z below #[Value.ref b] s) (F0 m 1497 ls []) := by
    intro H locs ls cells slots hS h1 h2
    refine va_forget hS.2.2 ?_
    refine W.widen (k := 601024) (n := 7293034) h1 h2 ?_
    refine lv_iconst (v := 1) hx hb dL_law_1497 (by decide +kernel) ?_
    refine W.base ?_
    exact lw_ret (Drawn.sameBut.refl s.drawn lw_cs) hx hb hr hlocks dL_law_1498
  exact law_loop hlt ⟨hx, hb, hml, hown, htl, hE, hJ, hKJ, hX, hbl⟩ hL hgo 513 0 (by omega) fI fI (fun _ => fI) 0 0 0 (fun _ => nI 0) (nI 0) (nI 0) (fun _ => 0) WC MC H _ ls ⟨hXC, hPR, hRM, hP9, hD9, hS, lv_sub hl [4, 2, 1, 3, 0] rfl⟩

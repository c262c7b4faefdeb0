set_option maxHeartbeats 8000000 in
set_option maxRecDepth 100000 in
theorem K_refused (l : Launch) (hlt : l.stackTraces = false) (G : eG) {lo : Nat} {fe B : Nat} {f sf : Nat → Int32} {ff : Nat → Nat → Int32} {old sz : Nat} {tx : Nat → Int32} {hsn : Int32} {WC : va_W} (hX : XS G fe f sf ff old sz 0 tx hsn WC) (hR : PR B f sf ff old sz 0 tx hsn) (hB : B < 700000000) : Met l yL_refused wsL_refused ({ frames := 9, cells := 48, slots := 288, locals := 171 }) (PK lo [.ref fe] G (fun H => va_P G.1 vwCl WC H ∧ va_D (AL lo) WC)) (MV (some (.int (nI 1))) (fun H => ∃ W', XS G fe f sf ff old sz 0 tx hsn W' ∧ va_P G.1 vwCl W' H ∧ va_D (inW WC) W') (inW WC)) 48 288 (inW WC) := by
  refine ofBK (cc := cL_refused) (maxL := 3) (ret := some .boolean) (by decide) rfl (Nat.le_of_ble_eq_true rfl) ?_
  intro p e s m below meth c hx hb hr hlocks hml hown hin hts hE hJ0 hI ls hl
  replace hown : s.vm.findClass RL = some m.cls := hown
  have hl : lv_has ls 3 [(0, .ref fe)] := hl
  obtain ⟨hP, hD0⟩ := hI
  have hAl : ∀ q, inW WC q → lo ≤ q := fun q h => inW_D hD0 q h
  have hD : va_D (inW WC) (WC ++ []) := by rw [List.append_nil]; exact D_self hD0
  obtain ⟨A, hAe⟩ : ∃ A, A = inW WC := ⟨_, rfl⟩
  rw [← hAe] at hD hAl
  have hS : va_S A s.heap s.heap [] := va_S.rf
  obtain ⟨H, hHe⟩ : ∃ H, H = s.heap := ⟨_, rfl⟩
  obtain ⟨locs, hle⟩ : ∃ q : List Loc, q = [] := ⟨_, rfl⟩
  rw [← hle] at hS ⊢
  have hP : va_P G.1 vwCl (WC ++ []) H := by rw [hHe, List.append_nil]; exact hP
  replace hS : va_S A s.heap H locs := by rw [hHe]; exact hS
  have hJ : JB lo s H := hJ0.S hAl hS
  refine tH hHe ?_
  refine lv_aload_n hx hb dL_refused_0 rfl (lv_at hl 0 rfl) ?_
  refine cx0 (st1 := [.long (dgF f sz 0 tx hsn)]) (va_runV (As := []) (rest := []) ⟨hx, hb, hml, hown, hts⟩ (CX_digest_ok l G hX hR hB) (cwV 0 hts gL_refused_X5_digest rfl rfl rfl (by decide +kernel) ⟨Nat.le_of_ble_eq_true rfl, Nat.le_of_ble_eq_true rfl⟩) (PJ.preV hE hJ.jx (xs_recv hE.1 hX (P_pre hP)) ⟨P_pre hP, D_tr (D_pre hD)⟩) rfl rfl hl.1 rfl (lv_room (Nat.le_of_ble_eq_true rfl)) dL_refused_1 ⟨Nat.le_of_ble_eq_true rfl, Nat.le_of_ble_eq_true rfl⟩) hP hD hS hJ0 hAl rfl (fun WC H locs hX hP hD hS hJ => ?_)
  refine lv_lstore_n (lv' := [(1, .long (dgF f sz 0 tx hsn)), (0, .ref fe)]) hx hb dL_refused_4 rfl hl (by decide) rfl (fun ls hl => ?_)
  refine lv_aload_n hx hb dL_refused_5 rfl (lv_at hl 1 rfl) ?_
  refine lv_iconst (v := nI 0) hx hb dL_refused_6 (by decide +kernel) ?_
  refine cxc (st1 := [.int (nI 1)]) (va_runS (As := [.ref fe, .int (nI 0)]) (rest := []) ⟨hx, hb, hml, hown, hts⟩ (K_refusesAny_0 l hlt G hX hR hB) (va_cwS 2 hts gL_refused_L_refusesAny rfl rfl rfl (by decide +kernel) ⟨Nat.le_of_ble_eq_true rfl, Nat.le_of_ble_eq_true rfl⟩) (PK.preS hE hJ ⟨P_pre hP, D_al hAl (D_pre hD)⟩) rfl rfl hl.1 rfl (lv_room (Nat.le_of_ble_eq_true rfl)) dL_refused_7 ⟨Nat.le_of_ble_eq_true rfl, Nat.le_of_ble_eq_true rfl⟩) hP hD hS hJ0 hAl rfl (fun WC H locs hX hP hD hS hJ => ?_)
  refine lv_if_eq (tgt := 34) hx hb dL_refused_10 (by decide) (fun h => absurd h (by decide +kernel)) (fun _ => ?_)
  refine lv_aload_n hx hb dL_refused_13 rfl (lv_at hl 1 rfl) ?_
  refine lv_iconst (v := nI 1) hx hb dL_refused_14 (by decide +kernel) ?_
  refine cxc (st1 := [.int (nI 1)]) (va_runS (As := [.ref fe, .int (nI 1)]) (rest := []) ⟨hx, hb, hml, hown, hts⟩ (K_refusesAny_1 l hlt G hX hR hB) (va_cwS 2 hts gL_refused_L_refusesAny rfl rfl rfl (by decide +kernel) ⟨Nat.le_of_ble_eq_true rfl, Nat.le_of_ble_eq_true rfl⟩) (PK.preS hE hJ ⟨P_pre hP, D_al hAl (D_pre hD)⟩) rfl rfl hl.1 rfl (lv_room (Nat.le_of_ble_eq_true rfl)) dL_refused_15 ⟨Nat.le_of_ble_eq_true rfl, Nat.le_of_ble_eq_true rfl⟩) hP hD hS hJ0 hAl rfl (fun WC H locs hX hP hD hS hJ => ?_)
  refine lv_if_eq (tgt := 34) hx hb dL_refused_18 (by decide) (fun h => absurd h (by decide +kernel)) (fun _ => ?_)
  refine lv_aload_n hx hb dL_refused_21 rfl (lv_at hl 1 rfl) ?_
  refine cx0 (st1 := [.long (dgF f sz 0 tx hsn)]) (va_runV (As := []) (rest := []) ⟨hx, hb, hml, hown, hts⟩ (CX_digest_ok l G hX hR hB) (cwV 0 hts gL_refused_X5_digest rfl rfl rfl (by decide +kernel) ⟨Nat.le_of_ble_eq_true rfl, Nat.le_of_ble_eq_true rfl⟩) (PJ.preV hE hJ.jx (xs_recv hE.1 hX (P_pre hP)) ⟨P_pre hP, D_tr (D_pre hD)⟩) rfl rfl hl.1 rfl (lv_room (Nat.le_of_ble_eq_true rfl)) dL_refused_22 ⟨Nat.le_of_ble_eq_true rfl, Nat.le_of_ble_eq_true rfl⟩) hP hD hS hJ0 hAl rfl (fun WC H locs hX hP hD hS hJ => ?_)
  refine lv_lload_n hx hb dL_refused_25 rfl (lv_at hl 0 rfl) ?_
  refine lv_lcmpE hx hb dL_refused_26 ?_
  refine lv_if_ne (tgt := 34) hx hb dL_refused_27 (by decide) (fun h => absurd h (by decide +kernel)) (fun _ => ?_)
  refine lv_iconst (v := nI 1) hx hb dL_refused_30 (by decide +kernel) ?_
  refine lv_goto (tgt := 35) hx hb dL_refused_31 (by decide) ?_
  subst hAe
  exact W.zret hx hb hr rfl (fun t ht hW => ⟨rfl, by rw [ht]; exact ⟨WC, hX, P_pre hP, D_pre hD⟩, hS.F ht⟩) hS.2.2 dL_refused_35

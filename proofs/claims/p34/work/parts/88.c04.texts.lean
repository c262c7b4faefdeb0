set_option maxHeartbeats 8000000 in
set_option maxRecDepth 100000 in
theorem K_texts (l : Launch) (hlt : l.stackTraces = false) (G : eG) (lo sz : Nat) : Met l yL_texts wsL_texts ({ frames := 8, cells := 162, slots := 1336, locals := 205 }) (PB lo G sz) (MV (some (.int (nI 1))) (fun _ => True) (fun q => sz ≤ q)) 162 1336 (fun q => sz ≤ q) := by
  refine ofBB (cc := cL_texts) (maxL := 2) (ret := some .boolean) (by decide) rfl ?_
  intro p e s m below meth c hx hb hr hlocks hml hown hts hE hJ0 hF0 hsz ls hl
  subst hsz
  replace hown : s.vm.findClass RL = some m.cls := hown
  have hL : LC cL_texts 2 wsL_texts p s m meth c ([] : List Value).toArray G lo := ⟨hx, hb, hml, hown, hts, hE, hJ0, hF0, hr, hlocks⟩
  have hL9 := hL
  have hAl : ∀ q, AA s q → lo ≤ q := fun q h => Nat.le_trans hJ0.1 h
  have hA : ∀ q : Nat, s.heap.size ≤ q → AA s q := fun _ h => h
  have hS : va_S (AA s) s.heap s.heap [] := va_S.rf
  have hP : va_P G.1 vwCl [] s.heap := P_nil
  have hD : va_D (AA s) [] := ⟨fun i j p q h => by simp at h, fun k q h => by simp at h⟩
  show W p l e _ s m ([] : List Value).toArray below meth c s.heap [] 0 0 (MQ below (MV (some (.int (nI 1))) (fun _ => True) (AA s)) ([] : List Value).toArray s 162 1336 (AA s)) (F0 m 0 ls [])
  refine va_new (ci := 5) (fs := [.null, .null, .null, .null, .null, .int (nI 0)]) (C := RX5) (T := TX5) (N := 6) hx hb hts (by decide +kernel) tyX5 tyX5_ok hown (hts (.classLink RL 10 RX5) (by decide +kernel)) (hts (.instantiable RX5 6) (by decide +kernel)) (hts (.initialized RX5) (by decide +kernel)) hE.1 hP hD hS hA rfl (fun j hj => by rcases (show j = 0 ∨ j = 1 ∨ j = 2 ∨ j = 3 ∨ j = 4 ∨ j = 5 by omega) with rfl | rfl | rfl | rfl | rfl | rfl <;> rfl) (Nat.le_of_ble_eq_true rfl) (Nat.le_of_ble_eq_true rfl) dL_texts_0 (fun q0 H hP hD hS => ?_)
  refine W.widen (k := 1) (n := 6) (Nat.le_of_ble_eq_true rfl) (Nat.le_of_ble_eq_true rfl) ?_
  refine lv_dup hx hb dL_texts_3 rfl ?_
  have hFc := frC (w := []) hD hS hA
  refine mcall (st1 := [.ref q0]) (va_runI (As := []) (rest := [.ref q0]) ⟨hx, hb, hml, hown, hts⟩ (c_X5_init l G lo q0 H.size (Nat.le_trans hJ0.1 (D_last (w := []) hD)) (Nat.le_trans hJ0.1 hS.1)) (cwI 0 hts gL_texts_X5_init rfl rfl rfl (hts (.initialized RX5) (by decide +kernel)) (hts (.methodLink RL 105 yX5_init) (by decide +kernel)) (hts (.instanceMethod yX5_init) (by decide +kernel)) rfl (by decide +kernel) ⟨Nat.le_of_ble_eq_true rfl, Nat.le_of_ble_eq_true rfl⟩) (PF.preS hE (hF0.kept (fun a h1 h2 => hS.2.1 a h1 (fun h => h2 (Nat.le_trans hJ0.1 h)))) ⟨rfl, P_last (w := []) hP⟩) rfl rfl hl.1 rfl (lv_room (Nat.le_of_ble_eq_true rfl)) dL_texts_4 ⟨Nat.le_of_ble_eq_true rfl, Nat.le_of_ble_eq_true rfl⟩) hS (fun x _ h => hFc x h) hFc rfl (fun H1 locs1 hB hz1 hk1 hS => ?_)
  refine W.widen (k := 158) (n := 1312) (Nat.le_of_ble_eq_true rfl) (Nat.le_of_ble_eq_true rfl) ?_
  obtain ⟨an, tn, sn, ha, sv, aa, oa, co, hP1, hD1⟩ := hB
  obtain ⟨hP, hD⟩ := jnC (w := []) hP hD hFc hk1 hP1 hD1
  clear hP1 hD1 hFc
  generalize H1 = H at hP hS ⊢
  obtain ⟨WC, hX, hP, hD⟩ := new_XS hP hD
  have hR := new_PR
  have hJ : JB lo s H := hJ0.S hAl hS
  refine lv_astore_n (lv' := [(0, .ref q0)]) hx hb dL_texts_7 rfl hl (by decide) rfl (fun ls hl => ?_)
  refine lv_aload_n hx hb dL_texts_8 rfl (lv_at hl 0 rfl) ?_
  refine lv_ldc2 (v := 417420948017) hx hb hown (hts (.constantLong RL 145 (417420948017)) (by decide +kernel)) dL_texts_9 ?_
  refine lv_lconst (v := 0) hx hb dL_texts_12 (by decide +kernel) ?_
  refine lv_iconst (v := nI 4) hx hb dL_texts_13 (by decide +kernel) ?_
  refine cx0 (st1 := [.int (nI 1)]) (va_runS (As := [.ref q0, .long 417420948017, .long 0, .int (nI 4)]) (rest := []) ⟨hx, hb, hml, hown, hts⟩ (K_isError l G hX hR (by decide) 417420948017 0 [0, 0, 0, 97, 48, 58, 50, 49] [0, 0, 0, 0, 0, 0, 0, 0] 4 te_w0 te_w1 (by rw [te_e0, te_e0l]; decide +kernel) (by decide)) (va_cwS 4 hts gL_texts_L_isError rfl rfl rfl (by decide +kernel) ⟨Nat.le_of_ble_eq_true rfl, Nat.le_of_ble_eq_true rfl⟩) (PK.preS hE hJ ⟨P_pre hP, D_al hAl (D_pre hD)⟩) rfl rfl hl.1 rfl (lv_room (Nat.le_of_ble_eq_true rfl)) dL_texts_14 ⟨Nat.le_of_ble_eq_true rfl, Nat.le_of_ble_eq_true rfl⟩) hP hD hS hJ0 hAl rfl (fun WC H locs hX hP hD hS hJ => ?_)
  have hR := PR_ty te_w1 (by decide +kernel) (PR_ty te_w0 (by decide) (PR_len0 hR))
  rw [te_e0, te_e0l] at hX hR
  replace hX : XS G q0 (fnL L0) (fnL L0) (fun _ => fnL L0) 0 0 5 (fnL te_T1) (nI 0) WC := hX
  replace hR : PR 0 (fnL L0) (fnL L0) (fun _ => fnL L0) 0 0 5 (fnL te_T1) (nI 0) := hR
  refine lv_if_eq (tgt := 116) hx hb dL_texts_17 (by decide) (fun h => absurd h (by decide +kernel)) (fun _ => ?_)
  refine lv_aload_n hx hb dL_texts_20 rfl (lv_at hl 0 rfl) ?_
  refine lv_ldc2 (v := 1630550576) hx hb hown (hts (.constantLong RL 151 (1630550576)) (by decide +kernel)) dL_texts_21 ?_
  refine lv_lconst (v := 0) hx hb dL_texts_24 (by decide +kernel) ?_
  refine lv_iconst (v := nI 3) hx hb dL_texts_25 (by decide +kernel) ?_
  refine cx0 (st1 := [.int (nI 1)]) (va_runS (As := [.ref q0, .long 1630550576, .long 0, .int (nI 3)]) (rest := []) ⟨hx, hb, hml, hown, hts⟩ (K_isError l G hX hR (by decide) 1630550576 0 [0, 0, 0, 0, 97, 48, 58, 48] [0, 0, 0, 0, 0, 0, 0, 0] 3 te_w2 te_w1 (by rw [te_e1, te_e1l]; decide +kernel) (by decide)) (va_cwS 4 hts gL_texts_L_isError rfl rfl rfl (by decide +kernel) ⟨Nat.le_of_ble_eq_true rfl, Nat.le_of_ble_eq_true rfl⟩) (PK.preS hE hJ ⟨P_pre hP, D_al hAl (D_pre hD)⟩) rfl rfl hl.1 rfl (lv_room (Nat.le_of_ble_eq_true rfl)) dL_texts_26 ⟨Nat.le_of_ble_eq_true rfl, Nat.le_of_ble_eq_true rfl⟩) hP hD hS hJ0 hAl rfl (fun WC H locs hX hP hD hS hJ => ?_)
  have hR := PR_ty te_w1 (by decide +kernel) (PR_ty te_w2 (by decide) (PR_len0 hR))
  rw [te_e1, te_e1l] at hX hR
  replace hX : XS G q0 (fnL L0) (fnL L0) (fun _ => fnL L0) 0 0 4 (fnL te_T2) (nI 0) WC := hX
  replace hR : PR 0 (fnL L0) (fnL L0) (fun _ => fnL L0) 0 0 4 (fnL te_T2) (nI 0) := hR
  refine lv_if_eq (tgt := 116) hx hb dL_texts_29 (by decide) (fun h => absurd h (by decide +kernel)) (fun _ => ?_)
  refine lv_aload_n hx hb dL_texts_32 rfl (lv_at hl 0 rfl) ?_
  refine lv_ldc2 (v := 7811637) hx hb hown (hts (.constantLong RL 153 (7811637)) (by decide +kernel)) dL_texts_33 ?_
  refine lv_lconst (v := 0) hx hb dL_texts_36 (by decide +kernel) ?_
  refine lv_iconst (v := nI 2) hx hb dL_texts_37 (by decide +kernel) ?_
  refine cx0 (st1 := [.int (nI 1)]) (va_runS (As := [.ref q0, .long 7811637, .long 0, .int (nI 2)]) (rest := []) ⟨hx, hb, hml, hown, hts⟩ (K_isError l G hX hR (by decide) 7811637 0 [0, 0, 0, 0, 0, 119, 50, 53] [0, 0, 0, 0, 0, 0, 0, 0] 2 te_w3 te_w1 (by rw [te_e2, te_e2l]; decide +kernel) (by decide)) (va_cwS 4 hts gL_texts_L_isError rfl rfl rfl (by decide +kernel) ⟨Nat.le_of_ble_eq_true rfl, Nat.le_of_ble_eq_true rfl⟩) (PK.preS hE hJ ⟨P_pre hP, D_al hAl (D_pre hD)⟩) rfl rfl hl.1 rfl (lv_room (Nat.le_of_ble_eq_true rfl)) dL_texts_38 ⟨Nat.le_of_ble_eq_true rfl, Nat.le_of_ble_eq_true rfl⟩) hP hD hS hJ0 hAl rfl (fun WC H locs hX hP hD hS hJ => ?_)
  have hR := PR_ty te_w1 (by decide +kernel) (PR_ty te_w3 (by decide) (PR_len0 hR))
  rw [te_e2, te_e2l] at hX hR
  replace hX : XS G q0 (fnL L0) (fnL L0) (fun _ => fnL L0) 0 0 3 (fnL te_T3) (nI 0) WC := hX
  replace hR : PR 0 (fnL L0) (fnL L0) (fun _ => fnL L0) 0 0 3 (fnL te_T3) (nI 0) := hR
  refine lv_if_eq (tgt := 116) hx hb dL_texts_41 (by decide) (fun h => absurd h (by decide +kernel)) (fun _ => ?_)
  refine lv_aload_n hx hb dL_texts_44 rfl (lv_at hl 0 rfl) ?_
  refine lv_ldc2 (v := 25654) hx hb hown (hts (.constantLong RL 155 (25654)) (by decide +kernel)) dL_texts_45 ?_
  refine lv_lconst (v := 0) hx hb dL_texts_48 (by decide +kernel) ?_
  refine lv_iconst (v := nI 1) hx hb dL_texts_49 (by decide +kernel) ?_
  refine cx0 (st1 := [.int (nI 1)]) (va_runS (As := [.ref q0, .long 25654, .long 0, .int (nI 1)]) (rest := []) ⟨hx, hb, hml, hown, hts⟩ (K_isError l G hX hR (by decide) 25654 0 [0, 0, 0, 0, 0, 0, 100, 54] [0, 0, 0, 0, 0, 0, 0, 0] 1 te_w4 te_w1 (by rw [te_e3, te_e3l]; decide +kernel) (by decide)) (va_cwS 4 hts gL_texts_L_isError rfl rfl rfl (by decide +kernel) ⟨Nat.le_of_ble_eq_true rfl, Nat.le_of_ble_eq_true rfl⟩) (PK.preS hE hJ ⟨P_pre hP, D_al hAl (D_pre hD)⟩) rfl rfl hl.1 rfl (lv_room (Nat.le_of_ble_eq_true rfl)) dL_texts_50 ⟨Nat.le_of_ble_eq_true rfl, Nat.le_of_ble_eq_true rfl⟩) hP hD hS hJ0 hAl rfl (fun WC H locs hX hP hD hS hJ => ?_)
  have hR := PR_ty te_w1 (by decide +kernel) (PR_ty te_w4 (by decide) (PR_len0 hR))
  rw [te_e3, te_e3l] at hX hR
  replace hX : XS G q0 (fnL L0) (fnL L0) (fun _ => fnL L0) 0 0 2 (fnL te_T4) (nI 0) WC := hX
  replace hR : PR 0 (fnL L0) (fnL L0) (fun _ => fnL L0) 0 0 2 (fnL te_T4) (nI 0) := hR
  refine lv_if_eq (tgt := 116) hx hb dL_texts_53 (by decide) (fun h => absurd h (by decide +kernel)) (fun _ => ?_)
  refine lv_aload_n hx hb dL_texts_56 rfl (lv_at hl 0 rfl) ?_
  refine lv_ldc2 (v := 27698) hx hb hown (hts (.constantLong RL 157 (27698)) (by decide +kernel)) dL_texts_57 ?_
  refine lv_lconst (v := 0) hx hb dL_texts_60 (by decide +kernel) ?_
  refine lv_iconst (v := nI 1) hx hb dL_texts_61 (by decide +kernel) ?_
  refine cx0 (st1 := [.int (nI 1)]) (va_runS (As := [.ref q0, .long 27698, .long 0, .int (nI 1)]) (rest := []) ⟨hx, hb, hml, hown, hts⟩ (K_isError l G hX hR (by decide) 27698 0 [0, 0, 0, 0, 0, 0, 108, 50] [0, 0, 0, 0, 0, 0, 0, 0] 1 te_w5 te_w1 (by rw [te_e4, te_e4l]; decide +kernel) (by decide)) (va_cwS 4 hts gL_texts_L_isError rfl rfl rfl (by decide +kernel) ⟨Nat.le_of_ble_eq_true rfl, Nat.le_of_ble_eq_true rfl⟩) (PK.preS hE hJ ⟨P_pre hP, D_al hAl (D_pre hD)⟩) rfl rfl hl.1 rfl (lv_room (Nat.le_of_ble_eq_true rfl)) dL_texts_62 ⟨Nat.le_of_ble_eq_true rfl, Nat.le_of_ble_eq_true rfl⟩) hP hD hS hJ0 hAl rfl (fun WC H locs hX hP hD hS hJ => ?_)
  have hR := PR_ty te_w1 (by decide +kernel) (PR_ty te_w5 (by decide) (PR_len0 hR))
  rw [te_e4, te_e4l] at hX hR
  replace hX : XS G q0 (fnL L0) (fnL L0) (fun _ => fnL L0) 0 0 2 (fnL te_T5) (nI 0) WC := hX
  replace hR : PR 0 (fnL L0) (fnL L0) (fun _ => fnL L0) 0 0 2 (fnL te_T5) (nI 0) := hR
  refine lv_if_eq (tgt := 116) hx hb dL_texts_65 (by decide) (fun h => absurd h (by decide +kernel)) (fun _ => ?_)
  refine lv_aload_n hx hb dL_texts_68 rfl (lv_at hl 0 rfl) ?_
  refine lv_ldc2 (v := 24882) hx hb hown (hts (.constantLong RL 159 (24882)) (by decide +kernel)) dL_texts_69 ?_
  refine lv_lconst (v := 0) hx hb dL_texts_72 (by decide +kernel) ?_
  refine lv_iconst (v := nI 1) hx hb dL_texts_73 (by decide +kernel) ?_
  refine cx0 (st1 := [.int (nI 1)]) (va_runS (As := [.ref q0, .long 24882, .long 0, .int (nI 1)]) (rest := []) ⟨hx, hb, hml, hown, hts⟩ (K_isError l G hX hR (by decide) 24882 0 [0, 0, 0, 0, 0, 0, 97, 50] [0, 0, 0, 0, 0, 0, 0, 0] 1 te_w6 te_w1 (by rw [te_e5, te_e5l]; decide +kernel) (by decide)) (va_cwS 4 hts gL_texts_L_isError rfl rfl rfl (by decide +kernel) ⟨Nat.le_of_ble_eq_true rfl, Nat.le_of_ble_eq_true rfl⟩) (PK.preS hE hJ ⟨P_pre hP, D_al hAl (D_pre hD)⟩) rfl rfl hl.1 rfl (lv_room (Nat.le_of_ble_eq_true rfl)) dL_texts_74 ⟨Nat.le_of_ble_eq_true rfl, Nat.le_of_ble_eq_true rfl⟩) hP hD hS hJ0 hAl rfl (fun WC H locs hX hP hD hS hJ => ?_)
  have hR := PR_ty te_w1 (by decide +kernel) (PR_ty te_w6 (by decide) (PR_len0 hR))
  rw [te_e5, te_e5l] at hX hR
  replace hX : XS G q0 (fnL L0) (fnL L0) (fun _ => fnL L0) 0 0 2 (fnL te_T6) (nI 0) WC := hX
  replace hR : PR 0 (fnL L0) (fnL L0) (fun _ => fnL L0) 0 0 2 (fnL te_T6) (nI 0) := hR
  refine lv_if_eq (tgt := 116) hx hb dL_texts_77 (by decide) (fun h => absurd h (by decide +kernel)) (fun _ => ?_)
  refine lv_aload_n hx hb dL_texts_80 rfl (lv_at hl 0 rfl) ?_
  refine lv_ldc2 (v := 30840) hx hb hown (hts (.constantLong RL 161 (30840)) (by decide +kernel)) dL_texts_81 ?_
  refine lv_lconst (v := 0) hx hb dL_texts_84 (by decide +kernel) ?_
  refine lv_iconst (v := nI 1) hx hb dL_texts_85 (by decide +kernel) ?_
  refine cx0 (st1 := [.int (nI 1)]) (va_runS (As := [.ref q0, .long 30840, .long 0, .int (nI 1)]) (rest := []) ⟨hx, hb, hml, hown, hts⟩ (K_isError l G hX hR (by decide) 30840 0 [0, 0, 0, 0, 0, 0, 120, 120] [0, 0, 0, 0, 0, 0, 0, 0] 1 te_w7 te_w1 (by rw [te_e6, te_e6l]; decide +kernel) (by decide)) (va_cwS 4 hts gL_texts_L_isError rfl rfl rfl (by decide +kernel) ⟨Nat.le_of_ble_eq_true rfl, Nat.le_of_ble_eq_true rfl⟩) (PK.preS hE hJ ⟨P_pre hP, D_al hAl (D_pre hD)⟩) rfl rfl hl.1 rfl (lv_room (Nat.le_of_ble_eq_true rfl)) dL_texts_86 ⟨Nat.le_of_ble_eq_true rfl, Nat.le_of_ble_eq_true rfl⟩) hP hD hS hJ0 hAl rfl (fun WC H locs hX hP hD hS hJ => ?_)
  have hR := PR_ty te_w1 (by decide +kernel) (PR_ty te_w7 (by decide) (PR_len0 hR))
  rw [te_e6, te_e6l] at hX hR
  replace hX : XS G q0 (fnL L0) (fnL L0) (fun _ => fnL L0) 0 0 2 (fnL te_T7) (nI 0) WC := hX
  replace hR : PR 0 (fnL L0) (fnL L0) (fun _ => fnL L0) 0 0 2 (fnL te_T7) (nI 0) := hR
  refine lv_if_eq (tgt := 116) hx hb dL_texts_89 (by decide) (fun h => absurd h (by decide +kernel)) (fun _ => ?_)
  exact te_s1 hlt hL9 hX hR hP hD hS hl

theorem CC_draw_e2 (l : Launch) (hlt : l.stackTraces = false) (G : eG) {lo : Nat} {fe B : Nat} {f sf : Nat → Int32} {ff : Nat → Nat → Int32} {old sz len : Nat} {tx : Nat → Int32} {hsn : Int32} {WC : va_W} (hX : XS G fe f sf ff old sz len tx hsn WC) (hR : PR B f sf ff old sz len tx hsn) (hB : B < 700000000) (hd : rg f 49 40) (d : Nat) (h1 : 1 ≤ d) (h2 : d ≤ 5) (h3 : ¬ d ≤ nn f 49) (z9 : Int32) : Met l yL_call wsL_call ({ frames := 7, cells := 1, slots := 6, locals := 103 }) (PK lo [.ref fe, .int (nI 5), .int (nI d), .int z9] G (fun H => va_P G.1 vwCl WC H ∧ va_D (AL lo) WC)) (MV (some (.int (-13))) (fun H => ∃ W', XS G fe f sf ff old sz len tx hsn W' ∧ va_P G.1 vwCl W' H ∧ va_D (inW WC) W') (inW WC)) 1 6 (inW WC) :=
  lift0 (X := fun W' => XS G fe f sf ff old sz len tx hsn W') (C0_draw_e2 l hlt G hX hR hB hd d h1 h2 h3 z9) hX
set_option maxHeartbeats 4000000 in
set_option maxRecDepth 100000 in
theorem C0_set_e1 (l : Launch) (hlt : l.stackTraces = false) (G : eG) {lo : Nat} {fe B : Nat} {f sf : Nat → Int32} {ff : Nat → Nat → Int32} {old sz len : Nat} {tx : Nat → Int32} {hsn : Int32} {WC : va_W} (hX : XS G fe f sf ff old sz len tx hsn WC) (hR : PR B f sf ff old sz len tx hsn) (hB : B < 700000000) (p0 : Int32) (p1 : Int32) (hNo : ¬ (nI 0 ≤ p0 ∧ p0 ≤ nI 2)) : Met l yL_call wsL_call ({ frames := 7, cells := 1, slots := 6, locals := 105 }) (PK lo [.ref fe, .int (nI 7), .int p0, .int p1] G (fun H => va_P G.1 vwCl WC H ∧ va_D (AL lo) WC)) (MV (some (.int (-11))) (fun _ => True) noA) 1 6 noA := by
  refine ofBKW (cc := cL_call) (maxL := 5) (ret := some .int) (by decide) rfl (Nat.le_of_ble_eq_true rfl) ?_
  intro p e s m below meth c hx hb hr hlocks hml hown hin hts hE hJ0 hI htab ls hl
  replace hown : s.vm.findClass RL = some m.cls := hown
  have hl : lv_has ls 5 [(0, .ref fe), (1, .int (nI 7)), (2, .int p0), (3, .int p1)] := hl
  obtain ⟨hP, hD0⟩ := hI
  have hRv := xs_recv hE.1 hX hP
  obtain ⟨an, tn, sn, v0, v1, w, tf, tv0, tv1, tw, sv0, sv1, sw, ha, sv, ad, aa, vv0, vv1, ww, oa, co, rfl, hcp, hst, hcs, hcf, had⟩ := hX
  obtain ⟨ho, hos, hof, hold, hz, htx, hk01⟩ := hR
  have hs := okf_shp (by omega) ho
  have hsS := okf_shp (by omega) hos
  have hrg : ∀ k, k < 6 → Shp (ff k) := fun k hk => okf_shp (by omega) (hof k hk)
  have heok := eR_ok htx
  have hrt := rR_le (nn tx) len
  have hS : va_S noA s.heap s.heap [] := va_S.rf
  refine lv_iload_n hx hb dL_call_0 rfl (lv_at hl 1 rfl) ?_
  refine lv_if_ne (tgt := 13) hx hb dL_call_1 (by decide) (fun _ => ?_) (fun h => absurd h (by decide +kernel))
  refine lv_iload_n hx hb dL_call_13 rfl (lv_at hl 1 rfl) ?_
  refine lv_iconst (v := nI 1) hx hb dL_call_14 (by decide +kernel) ?_
  refine lv_icmp_ne (tgt := 26) hx hb dL_call_15 (by decide) (fun _ => ?_) (fun h => absurd h (by decide +kernel))
  refine lv_iload_n hx hb dL_call_26 rfl (lv_at hl 1 rfl) ?_
  refine lv_iconst (v := nI 2) hx hb dL_call_27 (by decide +kernel) ?_
  refine lv_icmp_ne (tgt := 38) hx hb dL_call_28 (by decide) (fun _ => ?_) (fun h => absurd h (by decide +kernel))
  refine lv_iload_n hx hb dL_call_38 rfl (lv_at hl 1 rfl) ?_
  refine lv_iconst (v := nI 3) hx hb dL_call_39 (by decide +kernel) ?_
  refine lv_icmp_ne (tgt := 50) hx hb dL_call_40 (by decide) (fun _ => ?_) (fun h => absurd h (by decide +kernel))
  refine lv_iload_n hx hb dL_call_50 rfl (lv_at hl 1 rfl) ?_
  refine lv_iconst (v := nI 4) hx hb dL_call_51 (by decide +kernel) ?_
  refine lv_icmp_ne (tgt := 63) hx hb dL_call_52 (by decide) (fun _ => ?_) (fun h => absurd h (by decide +kernel))
  refine lv_iload_n hx hb dL_call_63 rfl (lv_at hl 1 rfl) ?_
  refine lv_iconst (v := nI 5) hx hb dL_call_64 (by decide +kernel) ?_
  refine lv_icmp_ne (tgt := 76) hx hb dL_call_65 (by decide) (fun _ => ?_) (fun h => absurd h (by decide +kernel))
  refine lv_iload_n hx hb dL_call_76 rfl (lv_at hl 1 rfl) ?_
  refine lv_bipush (v := nI 6) hx hb dL_call_77 (by decide +kernel) ?_
  refine lv_icmp_ne (tgt := 91) hx hb dL_call_79 (by decide) (fun _ => ?_) (fun h => absurd h (by decide +kernel))
  refine lv_iload_n hx hb dL_call_91 rfl (lv_at hl 1 rfl) ?_
  refine lv_bipush (v := nI 7) hx hb dL_call_92 (by decide +kernel) ?_
  refine lv_icmp_ne (tgt := 106) hx hb dL_call_94 (by decide) (fun h => absurd h (by decide +kernel)) (fun _ => ?_)
  refine lv_aload_n hx hb dL_call_97 rfl (lv_at hl 0 rfl) ?_
  refine lv_iload_n hx hb dL_call_98 rfl (lv_at hl 2 rfl) ?_
  refine lv_iload_n hx hb dL_call_99 rfl (lv_at hl 3 rfl) ?_
  refine xcall (vx_runV (As := [.int p0, .int p1]) (rest := []) ⟨hx, hb, hml, hown, hts⟩ (c_X5_set_e1 l hlt G fe p0 p1 hNo) (cwV 2 hts gL_call_X5_set rfl rfl rfl (by decide +kernel) ⟨Nat.le_of_ble_eq_true rfl, Nat.le_of_ble_eq_true rfl⟩) (PJ.preV hE hJ0.jx hRv P_nil) rfl rfl hl.1 rfl (lv_room (Nat.le_of_ble_eq_true rfl)) dL_call_100 ⟨Nat.le_of_ble_eq_true rfl, Nat.le_of_ble_eq_true rfl⟩) hS (fun H locs xq ce hk hS hq hv hc => ?_)
  refine vx_catch hown [] (⟨0, 272, 273, 75⟩ : ExceptionTableEntry) [(⟨0, 272, 278, 77⟩ : ExceptionTableEntry), (⟨0, 272, 283, 79⟩ : ExceptionTableEntry)] (htab.trans rfl) (fun z hz => by cases hz) (by decide) (by decide) (hts (.classLink RL 75 "java/lang/IndexOutOfBoundsException") (by decide +kernel)) (va_Nw.use rfl (hJ0.jx.2.2.2.1 "java/lang/IndexOutOfBoundsException" (by decide))) hq hv hc ?_
  refine lv_astore (lv' := [(4, .ref xq), (0, .ref fe), (1, .int (nI 7)), (2, .int p0), (3, .int p1)]) hx hb dL_call_273 hl (by decide) rfl (fun ls hl => ?_)
  refine lv_bipush (v := -11) hx hb dL_call_275 (by decide +kernel) ?_
  exact W.iret hx hb hr (fun t ht hW => ⟨rfl, trivial, hS.F ht⟩) hS.2.2 dL_call_277
theorem CC_set_e1 (l : Launch) (hlt : l.stackTraces = false) (G : eG) {lo : Nat} {fe B : Nat} {f sf : Nat → Int32} {ff : Nat → Nat → Int32} {old sz len : Nat} {tx : Nat → Int32} {hsn : Int32} {WC : va_W} (hX : XS G fe f sf ff old sz len tx hsn WC) (hR : PR B f sf ff old sz len tx hsn) (hB : B < 700000000) (p0 : Int32) (p1 : Int32) (hNo : ¬ (nI 0 ≤ p0 ∧ p0 ≤ nI 2)) : Met l yL_call wsL_call ({ frames := 7, cells := 1, slots := 6, locals := 105 }) (PK lo [.ref fe, .int (nI 7), .int p0, .int p1] G (fun H => va_P G.1 vwCl WC H ∧ va_D (AL lo) WC)) (MV (some (.int (-11))) (fun H => ∃ W', XS G fe f sf ff old sz len tx hsn W' ∧ va_P G.1 vwCl W' H ∧ va_D (inW WC) W') (inW WC)) 1 6 (inW WC) :=
  lift0 (X := fun W' => XS G fe f sf ff old sz len tx hsn W') (C0_set_e1 l hlt G hX hR hB p0 p1 hNo) hX
set_option maxHeartbeats 4000000 in
set_option maxRecDepth 100000 in
theorem C0_set_e2 (l : Launch) (hlt : l.stackTraces = false) (G : eG) {lo : Nat} {fe B : Nat} {f sf : Nat → Int32} {ff : Nat → Nat → Int32} {old sz len : Nat} {tx : Nat → Int32} {hsn : Int32} {WC : va_W} (hX : XS G fe f sf ff old sz len tx hsn WC) (hR : PR B f sf ff old sz len tx hsn) (hB : B < 700000000) (s0 : Nat) (p1 : Int32) (hs3 : s0 < 3) (hNo : ¬ (nI (stLo s0) ≤ p1 ∧ p1 ≤ nI (stHi s0))) : Met l yL_call wsL_call ({ frames := 7, cells := 1, slots := 6, locals := 105 }) (PK lo [.ref fe, .int (nI 7), .int (nI s0), .int p1] G (fun H => va_P G.1 vwCl WC H ∧ va_D (AL lo) WC)) (MV (some (.int (-12))) (fun _ => True) noA) 1 6 noA := by
  refine ofBKW (cc := cL_call) (maxL := 5) (ret := some .int) (by decide) rfl (Nat.le_of_ble_eq_true rfl) ?_
  intro p e s m below meth c hx hb hr hlocks hml hown hin hts hE hJ0 hI htab ls hl
  replace hown : s.vm.findClass RL = some m.cls := hown
  have hl : lv_has ls 5 [(0, .ref fe), (1, .int (nI 7)), (2, .int (nI s0)), (3, .int p1)] := hl
  obtain ⟨hP, hD0⟩ := hI
  have hRv := xs_recv hE.1 hX hP
  obtain ⟨an, tn, sn, v0, v1, w, tf, tv0, tv1, tw, sv0, sv1, sw, ha, sv, ad, aa, vv0, vv1, ww, oa, co, rfl, hcp, hst, hcs, hcf, had⟩ := hX
  obtain ⟨ho, hos, hof, hold, hz, htx, hk01⟩ := hR
  have hs := okf_shp (by omega) ho
  have hsS := okf_shp (by omega) hos
  have hrg : ∀ k, k < 6 → Shp (ff k) := fun k hk => okf_shp (by omega) (hof k hk)
  have heok := eR_ok htx
  have hrt := rR_le (nn tx) len
  have hS : va_S noA s.heap s.heap [] := va_S.rf
  refine lv_iload_n hx hb dL_call_0 rfl (lv_at hl 1 rfl) ?_
  refine lv_if_ne (tgt := 13) hx hb dL_call_1 (by decide) (fun _ => ?_) (fun h => absurd h (by decide +kernel))
  refine lv_iload_n hx hb dL_call_13 rfl (lv_at hl 1 rfl) ?_
  refine lv_iconst (v := nI 1) hx hb dL_call_14 (by decide +kernel) ?_
  refine lv_icmp_ne (tgt := 26) hx hb dL_call_15 (by decide) (fun _ => ?_) (fun h => absurd h (by decide +kernel))
  refine lv_iload_n hx hb dL_call_26 rfl (lv_at hl 1 rfl) ?_
  refine lv_iconst (v := nI 2) hx hb dL_call_27 (by decide +kernel) ?_
  refine lv_icmp_ne (tgt := 38) hx hb dL_call_28 (by decide) (fun _ => ?_) (fun h => absurd h (by decide +kernel))
  refine lv_iload_n hx hb dL_call_38 rfl (lv_at hl 1 rfl) ?_
  refine lv_iconst (v := nI 3) hx hb dL_call_39 (by decide +kernel) ?_
  refine lv_icmp_ne (tgt := 50) hx hb dL_call_40 (by decide) (fun _ => ?_) (fun h => absurd h (by decide +kernel))
  refine lv_iload_n hx hb dL_call_50 rfl (lv_at hl 1 rfl) ?_
  refine lv_iconst (v := nI 4) hx hb dL_call_51 (by decide +kernel) ?_
  refine lv_icmp_ne (tgt := 63) hx hb dL_call_52 (by decide) (fun _ => ?_) (fun h => absurd h (by decide +kernel))
  refine lv_iload_n hx hb dL_call_63 rfl (lv_at hl 1 rfl) ?_
  refine lv_iconst (v := nI 5) hx hb dL_call_64 (by decide +kernel) ?_
  refine lv_icmp_ne (tgt := 76) hx hb dL_call_65 (by decide) (fun _ => ?_) (fun h => absurd h (by decide +kernel))
  refine lv_iload_n hx hb dL_call_76 rfl (lv_at hl 1 rfl) ?_
  refine lv_bipush (v := nI 6) hx hb dL_call_77 (by decide +kernel) ?_
  refine lv_icmp_ne (tgt := 91) hx hb dL_call_79 (by decide) (fun _ => ?_) (fun h => absurd h (by decide +kernel))
  refine lv_iload_n hx hb dL_call_91 rfl (lv_at hl 1 rfl) ?_
  refine lv_bipush (v := nI 7) hx hb dL_call_92 (by decide +kernel) ?_
  refine lv_icmp_ne (tgt := 106) hx hb dL_call_94 (by decide) (fun h => absurd h (by decide +kernel)) (fun _ => ?_)
  refine lv_aload_n hx hb dL_call_97 rfl (lv_at hl 0 rfl) ?_
  refine lv_iload_n hx hb dL_call_98 rfl (lv_at hl 2 rfl) ?_
  refine lv_iload_n hx hb dL_call_99 rfl (lv_at hl 3 rfl) ?_
  refine xcall (vx_runV (As := [.int (nI s0), .int p1]) (rest := []) ⟨hx, hb, hml, hown, hts⟩ (c_X5_set_e2 l hlt G fe s0 p1 hs3 hNo) (cwV 2 hts gL_call_X5_set rfl rfl rfl (by decide +kernel) ⟨Nat.le_of_ble_eq_true rfl, Nat.le_of_ble_eq_true rfl⟩) (PJ.preV hE hJ0.jx hRv P_nil) rfl rfl hl.1 rfl (lv_room (Nat.le_of_ble_eq_true rfl)) dL_call_100 ⟨Nat.le_of_ble_eq_true rfl, Nat.le_of_ble_eq_true rfl⟩) hS (fun H locs xq ce hk hS hq hv hc => ?_)
  refine vx_catch hown [(⟨0, 272, 273, 75⟩ : ExceptionTableEntry)] (⟨0, 272, 278, 77⟩ : ExceptionTableEntry) [(⟨0, 272, 283, 79⟩ : ExceptionTableEntry)] (htab.trans rfl) (fun z hz => by
      simp only [List.mem_cons, List.not_mem_nil, or_false] at hz
      rcases hz with rfl
      · exact Or.inr ⟨by decide, "java/lang/IndexOutOfBoundsException", hts (.classLink RL 75 "java/lang/IndexOutOfBoundsException") (by decide +kernel), hJ0.jx.2.2.2.2.1.2.1⟩) (by decide) (by decide) (hts (.classLink RL 77 "java/lang/IllegalArgumentException") (by decide +kernel)) (va_Nw.use rfl (hJ0.jx.2.2.2.1 "java/lang/IllegalArgumentException" (by decide))) hq hv hc ?_
  refine lv_astore (lv' := [(4, .ref xq), (0, .ref fe), (1, .int (nI 7)), (2, .int (nI s0)), (3, .int p1)]) hx hb dL_call_278 hl (by decide) rfl (fun ls hl => ?_)
  refine lv_bipush (v := -12) hx hb dL_call_280 (by decide +kernel) ?_
  exact W.iret hx hb hr (fun t ht hW => ⟨rfl, trivial, hS.F ht⟩) hS.2.2 dL_call_282
theorem CC_set_e2 (l : Launch) (hlt : l.stackTraces = false) (G : eG) {lo : Nat} {fe B : Nat} {f sf : Nat → Int32} {ff : Nat → Nat → Int32} {old sz len : Nat} {tx : Nat → Int32} {hsn : Int32} {WC : va_W} (hX : XS G fe f sf ff old sz len tx hsn WC) (hR : PR B f sf ff old sz len tx hsn) (hB : B < 700000000) (s0 : Nat) (p1 : Int32) (hs3 : s0 < 3) (hNo : ¬ (nI (stLo s0) ≤ p1 ∧ p1 ≤ nI (stHi s0))) : Met l yL_call wsL_call ({ frames := 7, cells := 1, slots := 6, locals := 105 }) (PK lo [.ref fe, .int (nI 7), .int (nI s0), .int p1] G (fun H => va_P G.1 vwCl WC H ∧ va_D (AL lo) WC)) (MV (some (.int (-12))) (fun H => ∃ W', XS G fe f sf ff old sz len tx hsn W' ∧ va_P G.1 vwCl W' H ∧ va_D (inW WC) W') (inW WC)) 1 6 (inW WC) :=
  lift0 (X := fun W' => XS G fe f sf ff old sz len tx hsn W') (C0_set_e2 l hlt G hX hR hB s0 p1 hs3 hNo) hX
set_option maxHeartbeats 4000000 in
set_option maxRecDepth 100000 in
theorem C0_append_e1 (l : Launch) (hlt : l.stackTraces = false) (G : eG) {lo : Nat} {fe B : Nat} {f sf : Nat → Int32} {ff : Nat → Nat → Int32} {old sz len : Nat} {tx : Nat → Int32} {hsn : Int32} {WC : va_W} (hX : XS G fe f sf ff old sz len tx hsn WC) (hR : PR B f sf ff old sz len tx hsn) (hB : B < 700000000) (p0 : Int32) (hNo : ¬ (nI 33 ≤ p0 ∧ p0 ≤ nI 126)) (z9 : Int32) : Met l yL_call wsL_call ({ frames := 7, cells := 1, slots := 6, locals := 103 }) (PK lo [.ref fe, .int (nI 8), .int p0, .int z9] G (fun H => va_P G.1 vwCl WC H ∧ va_D (AL lo) WC)) (MV (some (.int (-12))) (fun _ => True) noA) 1 6 noA := by
  refine ofBKW (cc := cL_call) (maxL := 5) (ret := some .int) (by decide) rfl (Nat.le_of_ble_eq_true rfl) ?_
  intro p e s m below meth c hx hb hr hlocks hml hown hin hts hE hJ0 hI htab ls hl
  replace hown : s.vm.findClass RL = some m.cls := hown
  have hl : lv_has ls 5 [(0, .ref fe), (1, .int (nI 8)), (2, .int p0), (3, .int z9)] := hl
  obtain ⟨hP, hD0⟩ := hI
  have hRv := xs_recv hE.1 hX hP
  obtain ⟨an, tn, sn, v0, v1, w, tf, tv0, tv1, tw, sv0, sv1, sw, ha, sv, ad, aa, vv0, vv1, ww, oa, co, rfl, hcp, hst, hcs, hcf, had⟩ := hX
  obtain ⟨ho, hos, hof, hold, hz, htx, hk01⟩ := hR
  have hs := okf_shp (by omega) ho
  have hsS := okf_shp (by omega) hos
  have hrg : ∀ k, k < 6 → Shp (ff k) := fun k hk => okf_shp (by omega) (hof k hk)
  have heok := eR_ok htx
  have hrt := rR_le (nn tx) len
  have hS : va_S noA s.heap s.heap [] := va_S.rf
  refine lv_iload_n hx hb dL_call_0 rfl (lv_at hl 1 rfl) ?_
  refine lv_if_ne (tgt := 13) hx hb dL_call_1 (by decide) (fun _ => ?_) (fun h => absurd h (by decide +kernel))
  refine lv_iload_n hx hb dL_call_13 rfl (lv_at hl 1 rfl) ?_
  refine lv_iconst (v := nI 1) hx hb dL_call_14 (by decide +kernel) ?_
  refine lv_icmp_ne (tgt := 26) hx hb dL_call_15 (by decide) (fun _ => ?_) (fun h => absurd h (by decide +kernel))
  refine lv_iload_n hx hb dL_call_26 rfl (lv_at hl 1 rfl) ?_
  refine lv_iconst (v := nI 2) hx hb dL_call_27 (by decide +kernel) ?_
  refine lv_icmp_ne (tgt := 38) hx hb dL_call_28 (by decide) (fun _ => ?_) (fun h => absurd h (by decide +kernel))
  refine lv_iload_n hx hb dL_call_38 rfl (lv_at hl 1 rfl) ?_
  refine lv_iconst (v := nI 3) hx hb dL_call_39 (by decide +kernel) ?_
  refine lv_icmp_ne (tgt := 50) hx hb dL_call_40 (by decide) (fun _ => ?_) (fun h => absurd h (by decide +kernel))
  refine lv_iload_n hx hb dL_call_50 rfl (lv_at hl 1 rfl) ?_
  refine lv_iconst (v := nI 4) hx hb dL_call_51 (by decide +kernel) ?_
  refine lv_icmp_ne (tgt := 63) hx hb dL_call_52 (by decide) (fun _ => ?_) (fun h => absurd h (by decide +kernel))
  refine lv_iload_n hx hb dL_call_63 rfl (lv_at hl 1 rfl) ?_
  refine lv_iconst (v := nI 5) hx hb dL_call_64 (by decide +kernel) ?_
  refine lv_icmp_ne (tgt := 76) hx hb dL_call_65 (by decide) (fun _ => ?_) (fun h => absurd h (by decide +kernel))
  refine lv_iload_n hx hb dL_call_76 rfl (lv_at hl 1 rfl) ?_
  refine lv_bipush (v := nI 6) hx hb dL_call_77 (by decide +kernel) ?_
  refine lv_icmp_ne (tgt := 91) hx hb dL_call_79 (by decide) (fun _ => ?_) (fun h => absurd h (by decide +kernel))
  refine lv_iload_n hx hb dL_call_91 rfl (lv_at hl 1 rfl) ?_
  refine lv_bipush (v := nI 7) hx hb dL_call_92 (by decide +kernel) ?_
  refine lv_icmp_ne (tgt := 106) hx hb dL_call_94 (by decide) (fun _ => ?_) (fun h => absurd h (by decide +kernel))
  refine lv_iload_n hx hb dL_call_106 rfl (lv_at hl 1 rfl) ?_
  refine lv_bipush (v := nI 8) hx hb dL_call_107 (by decide +kernel) ?_
  refine lv_icmp_ne (tgt := 120) hx hb dL_call_109 (by decide) (fun h => absurd h (by decide +kernel)) (fun _ => ?_)
  refine lv_aload_n hx hb dL_call_112 rfl (lv_at hl 0 rfl) ?_
  refine lv_iload_n hx hb dL_call_113 rfl (lv_at hl 2 rfl) ?_
  refine xcall (vx_runV (As := [.int p0]) (rest := []) ⟨hx, hb, hml, hown, hts⟩ (c_X5_append_e1 l hlt G fe p0 hNo) (cwV 1 hts gL_call_X5_append rfl rfl rfl (by decide +kernel) ⟨Nat.le_of_ble_eq_true rfl, Nat.le_of_ble_eq_true rfl⟩) (PJ.preV hE hJ0.jx hRv P_nil) rfl rfl hl.1 rfl (lv_room (Nat.le_of_ble_eq_true rfl)) dL_call_114 ⟨Nat.le_of_ble_eq_true rfl, Nat.le_of_ble_eq_true rfl⟩) hS (fun H locs xq ce hk hS hq hv hc => ?_)
  refine vx_catch hown [(⟨0, 272, 273, 75⟩ : ExceptionTableEntry)] (⟨0, 272, 278, 77⟩ : ExceptionTableEntry) [(⟨0, 272, 283, 79⟩ : ExceptionTableEntry)] (htab.trans rfl) (fun z hz => by
      simp only [List.mem_cons, List.not_mem_nil, or_false] at hz
      rcases hz with rfl
      · exact Or.inr ⟨by decide, "java/lang/IndexOutOfBoundsException", hts (.classLink RL 75 "java/lang/IndexOutOfBoundsException") (by decide +kernel), hJ0.jx.2.2.2.2.1.2.1⟩) (by decide) (by decide) (hts (.classLink RL 77 "java/lang/IllegalArgumentException") (by decide +kernel)) (va_Nw.use rfl (hJ0.jx.2.2.2.1 "java/lang/IllegalArgumentException" (by decide))) hq hv hc ?_
  refine lv_astore (lv' := [(4, .ref xq), (0, .ref fe), (1, .int (nI 8)), (2, .int p0), (3, .int z9)]) hx hb dL_call_278 hl (by decide) rfl (fun ls hl => ?_)
  refine lv_bipush (v := -12) hx hb dL_call_280 (by decide +kernel) ?_
  exact W.iret hx hb hr (fun t ht hW => ⟨rfl, trivial, hS.F ht⟩) hS.2.2 dL_call_282
theorem CC_append_e1 (l : Launch) (hlt : l.stackTraces = false) (G : eG) {lo : Nat} {fe B : Nat} {f sf : Nat → Int32} {ff : Nat → Nat → Int32} {old sz len : Nat} {tx : Nat → Int32} {hsn : Int32} {WC : va_W} (hX : XS G fe f sf ff old sz len tx hsn WC) (hR : PR B f sf ff old sz len tx hsn) (hB : B < 700000000) (p0 : Int32) (hNo : ¬ (nI 33 ≤ p0 ∧ p0 ≤ nI 126)) (z9 : Int32) : Met l yL_call wsL_call ({ frames := 7, cells := 1, slots := 6, locals := 103 }) (PK lo [.ref fe, .int (nI 8), .int p0, .int z9] G (fun H => va_P G.1 vwCl WC H ∧ va_D (AL lo) WC)) (MV (some (.int (-12))) (fun H => ∃ W', XS G fe f sf ff old sz len tx hsn W' ∧ va_P G.1 vwCl W' H ∧ va_D (inW WC) W') (inW WC)) 1 6 (inW WC) :=
  lift0 (X := fun W' => XS G fe f sf ff old sz len tx hsn W') (C0_append_e1 l hlt G hX hR hB p0 hNo z9) hX
set_option maxHeartbeats 4000000 in
set_option maxRecDepth 100000 in
theorem C0_append_e2 (l : Launch) (hlt : l.stackTraces = false) (G : eG) {lo : Nat} {fe B : Nat} {f sf : Nat → Int32} {ff : Nat → Nat → Int32} {old sz len : Nat} {tx : Nat → Int32} {hsn : Int32} {WC : va_W} (hX : XS G fe f sf ff old sz len tx hsn WC) (hR : PR B f sf ff old sz len tx hsn) (hB : B < 700000000) (hlen : len = 60) (q : Nat) (h1 : 33 ≤ q) (h2 : q ≤ 126) (z9 : Int32) : Met l yL_call wsL_call ({ frames := 7, cells := 1, slots := 6, locals := 103 }) (PK lo [.ref fe, .int (nI 8), .int (nI q), .int z9] G (fun H => va_P G.1 vwCl WC H ∧ va_D (AL lo) WC)) (MV (some (.int (-13))) (fun _ => True) noA) 1 6 noA := by
  refine ofBKW (cc := cL_call) (maxL := 5) (ret := some .int) (by decide) rfl (Nat.le_of_ble_eq_true rfl) ?_
  intro p e s m below meth c hx hb hr hlocks hml hown hin hts hE hJ0 hI htab ls hl
  replace hown : s.vm.findClass RL = some m.cls := hown
  have hl : lv_has ls 5 [(0, .ref fe), (1, .int (nI 8)), (2, .int (nI q)), (3, .int z9)] := hl
  obtain ⟨hP, hD0⟩ := hI
  have hRv := xs_recv hE.1 hX hP
  obtain ⟨an, tn, sn, v0, v1, w, tf, tv0, tv1, tw, sv0, sv1, sw, ha, sv, ad, aa, vv0, vv1, ww, oa, co, rfl, hcp, hst, hcs, hcf, had⟩ := hX
  obtain ⟨ho, hos, hof, hold, hz, htx, hk01⟩ := hR
  have hs := okf_shp (by omega) ho
  have hsS := okf_shp (by omega) hos
  have hrg : ∀ k, k < 6 → Shp (ff k) := fun k hk => okf_shp (by omega) (hof k hk)
  have heok := eR_ok htx
  have hrt := rR_le (nn tx) len
  have hS : va_S noA s.heap s.heap [] := va_S.rf
  refine lv_iload_n hx hb dL_call_0 rfl (lv_at hl 1 rfl) ?_
  refine lv_if_ne (tgt := 13) hx hb dL_call_1 (by decide) (fun _ => ?_) (fun h => absurd h (by decide +kernel))
  refine lv_iload_n hx hb dL_call_13 rfl (lv_at hl 1 rfl) ?_
  refine lv_iconst (v := nI 1) hx hb dL_call_14 (by decide +kernel) ?_
  refine lv_icmp_ne (tgt := 26) hx hb dL_call_15 (by decide) (fun _ => ?_) (fun h => absurd h (by decide +kernel))
  refine lv_iload_n hx hb dL_call_26 rfl (lv_at hl 1 rfl) ?_
  refine lv_iconst (v := nI 2) hx hb dL_call_27 (by decide +kernel) ?_
  refine lv_icmp_ne (tgt := 38) hx hb dL_call_28 (by decide) (fun _ => ?_) (fun h => absurd h (by decide +kernel))
  refine lv_iload_n hx hb dL_call_38 rfl (lv_at hl 1 rfl) ?_
  refine lv_iconst (v := nI 3) hx hb dL_call_39 (by decide +kernel) ?_
  refine lv_icmp_ne (tgt := 50) hx hb dL_call_40 (by decide) (fun _ => ?_) (fun h => absurd h (by decide +kernel))
  refine lv_iload_n hx hb dL_call_50 rfl (lv_at hl 1 rfl) ?_
  refine lv_iconst (v := nI 4) hx hb dL_call_51 (by decide +kernel) ?_
  refine lv_icmp_ne (tgt := 63) hx hb dL_call_52 (by decide) (fun _ => ?_) (fun h => absurd h (by decide +kernel))
  refine lv_iload_n hx hb dL_call_63 rfl (lv_at hl 1 rfl) ?_
  refine lv_iconst (v := nI 5) hx hb dL_call_64 (by decide +kernel) ?_
  refine lv_icmp_ne (tgt := 76) hx hb dL_call_65 (by decide) (fun _ => ?_) (fun h => absurd h (by decide +kernel))
  refine lv_iload_n hx hb dL_call_76 rfl (lv_at hl 1 rfl) ?_
  refine lv_bipush (v := nI 6) hx hb dL_call_77 (by decide +kernel) ?_
  refine lv_icmp_ne (tgt := 91) hx hb dL_call_79 (by decide) (fun _ => ?_) (fun h => absurd h (by decide +kernel))
  refine lv_iload_n hx hb dL_call_91 rfl (lv_at hl 1 rfl) ?_
  refine lv_bipush (v := nI 7) hx hb dL_call_92 (by decide +kernel) ?_
  refine lv_icmp_ne (tgt := 106) hx hb dL_call_94 (by decide) (fun _ => ?_) (fun h => absurd h (by decide +kernel))
  refine lv_iload_n hx hb dL_call_106 rfl (lv_at hl 1 rfl) ?_
  refine lv_bipush (v := nI 8) hx hb dL_call_107 (by decide +kernel) ?_
  refine lv_icmp_ne (tgt := 120) hx hb dL_call_109 (by decide) (fun h => absurd h (by decide +kernel)) (fun _ => ?_)
  refine lv_aload_n hx hb dL_call_112 rfl (lv_at hl 0 rfl) ?_
  refine lv_iload_n hx hb dL_call_113 rfl (lv_at hl 2 rfl) ?_
  refine xcall (vx_runV (As := [.int (nI q)]) (rest := []) ⟨hx, hb, hml, hown, hts⟩ (c_X5_append_e2 l hlt G fe (tn 0) (sn 0) ha hsn an oa co len (rR (nn tx) len) (eR (nn tx) len) tx hlen q h1 h2) (cwV 1 hts gL_call_X5_append rfl rfl rfl (by decide +kernel) ⟨Nat.le_of_ble_eq_true rfl, Nat.le_of_ble_eq_true rfl⟩) (PJ.preV hE hJ0.jx hRv (P_pre (P_perm pm_FO hP))) rfl rfl hl.1 rfl (lv_room (Nat.le_of_ble_eq_true rfl)) dL_call_114 ⟨Nat.le_of_ble_eq_true rfl, Nat.le_of_ble_eq_true rfl⟩) hS (fun H locs xq ce hk hS hq hv hc => ?_)
  refine vx_catch hown [(⟨0, 272, 273, 75⟩ : ExceptionTableEntry), (⟨0, 272, 278, 77⟩ : ExceptionTableEntry)] (⟨0, 272, 283, 79⟩ : ExceptionTableEntry) [] (htab.trans rfl) (fun z hz => by
      simp only [List.mem_cons, List.not_mem_nil, or_false] at hz
      rcases hz with rfl | rfl
      · exact Or.inr ⟨by decide, "java/lang/IndexOutOfBoundsException", hts (.classLink RL 75 "java/lang/IndexOutOfBoundsException") (by decide +kernel), hJ0.jx.2.2.2.2.1.2.2.1⟩
      · exact Or.inr ⟨by decide, "java/lang/IllegalArgumentException", hts (.classLink RL 77 "java/lang/IllegalArgumentException") (by decide +kernel), hJ0.jx.2.2.2.2.1.2.2.2⟩) (by decide) (by decide) (hts (.classLink RL 79 "java/lang/IllegalStateException") (by decide +kernel)) (va_Nw.use rfl (hJ0.jx.2.2.2.1 "java/lang/IllegalStateException" (by decide))) hq hv hc ?_
  refine lv_astore (lv' := [(4, .ref xq), (0, .ref fe), (1, .int (nI 8)), (2, .int (nI q)), (3, .int z9)]) hx hb dL_call_283 hl (by decide) rfl (fun ls hl => ?_)
  refine lv_bipush (v := -13) hx hb dL_call_285 (by decide +kernel) ?_
  exact W.iret hx hb hr (fun t ht hW => ⟨rfl, trivial, hS.F ht⟩) hS.2.2 dL_call_287
theorem CC_append_e2 (l : Launch) (hlt : l.stackTraces = false) (G : eG) {lo : Nat} {fe B : Nat} {f sf : Nat → Int32} {ff : Nat → Nat → Int32} {old sz len : Nat} {tx : Nat → Int32} {hsn : Int32} {WC : va_W} (hX : XS G fe f sf ff old sz len tx hsn WC) (hR : PR B f sf ff old sz len tx hsn) (hB : B < 700000000) (hlen : len = 60) (q : Nat) (h1 : 33 ≤ q) (h2 : q ≤ 126) (z9 : Int32) : Met l yL_call wsL_call ({ frames := 7, cells := 1, slots := 6, locals := 103 }) (PK lo [.ref fe, .int (nI 8), .int (nI q), .int z9] G (fun H => va_P G.1 vwCl WC H ∧ va_D (AL lo) WC)) (MV (some (.int (-13))) (fun H => ∃ W', XS G fe f sf ff old sz len tx hsn W' ∧ va_P G.1 vwCl W' H ∧ va_D (inW WC) W') (inW WC)) 1 6 (inW WC) :=
  lift0 (X := fun W' => XS G fe f sf ff old sz len tx hsn W') (C0_append_e2 l hlt G hX hR hB hlen q h1 h2 z9) hX
set_option maxHeartbeats 4000000 in
set_option maxRecDepth 100000 in
theorem C0_obey_e1 (l : Launch) (hlt : l.stackTraces = false) (G : eG) {lo : Nat} {fe B : Nat} {f sf : Nat → Int32} {ff : Nat → Nat → Int32} {old sz len : Nat} {tx : Nat → Int32} {hsn : Int32} {WC : va_W} (hX : XS G fe f sf ff old sz len tx hsn WC) (hR : PR B f sf ff old sz len tx hsn) (hB : B < 700000000) (hno : ¬ eCp (eR (nn tx) len) = true) (z8 : Int32) (z9 : Int32) : Met l yL_call wsL_call ({ frames := 7, cells := 1, slots := 6, locals := 103 }) (PK lo [.ref fe, .int (nI 9), .int z8, .int z9] G (fun H => va_P G.1 vwCl WC H ∧ va_D (AL lo) WC)) (MV (some (.int (-12))) (fun _ => True) noA) 1 6 noA := by
  refine ofBKW (cc := cL_call) (maxL := 5) (ret := some .int) (by decide) rfl (Nat.le_of_ble_eq_true rfl) ?_
  intro p e s m below meth c hx hb hr hlocks hml hown hin hts hE hJ0 hI htab ls hl
  replace hown : s.vm.findClass RL = some m.cls := hown
  have hl : lv_has ls 5 [(0, .ref fe), (1, .int (nI 9)), (2, .int z8), (3, .int z9)] := hl
  obtain ⟨hP, hD0⟩ := hI
  have hRv := xs_recv hE.1 hX hP
  obtain ⟨an, tn, sn, v0, v1, w, tf, tv0, tv1, tw, sv0, sv1, sw, ha, sv, ad, aa, vv0, vv1, ww, oa, co, rfl, hcp, hst, hcs, hcf, had⟩ := hX
  obtain ⟨ho, hos, hof, hold, hz, htx, hk01⟩ := hR
  have hs := okf_shp (by omega) ho
  have hsS := okf_shp (by omega) hos
  have hrg : ∀ k, k < 6 → Shp (ff k) := fun k hk => okf_shp (by omega) (hof k hk)
  have heok := eR_ok htx
  have hrt := rR_le (nn tx) len
  have hS : va_S noA s.heap s.heap [] := va_S.rf
  refine lv_iload_n hx hb dL_call_0 rfl (lv_at hl 1 rfl) ?_
  refine lv_if_ne (tgt := 13) hx hb dL_call_1 (by decide) (fun _ => ?_) (fun h => absurd h (by decide +kernel))
  refine lv_iload_n hx hb dL_call_13 rfl (lv_at hl 1 rfl) ?_
  refine lv_iconst (v := nI 1) hx hb dL_call_14 (by decide +kernel) ?_
  refine lv_icmp_ne (tgt := 26) hx hb dL_call_15 (by decide) (fun _ => ?_) (fun h => absurd h (by decide +kernel))
  refine lv_iload_n hx hb dL_call_26 rfl (lv_at hl 1 rfl) ?_
  refine lv_iconst (v := nI 2) hx hb dL_call_27 (by decide +kernel) ?_
  refine lv_icmp_ne (tgt := 38) hx hb dL_call_28 (by decide) (fun _ => ?_) (fun h => absurd h (by decide +kernel))
  refine lv_iload_n hx hb dL_call_38 rfl (lv_at hl 1 rfl) ?_
  refine lv_iconst (v := nI 3) hx hb dL_call_39 (by decide +kernel) ?_
  refine lv_icmp_ne (tgt := 50) hx hb dL_call_40 (by decide) (fun _ => ?_) (fun h => absurd h (by decide +kernel))
  refine lv_iload_n hx hb dL_call_50 rfl (lv_at hl 1 rfl) ?_
  refine lv_iconst (v := nI 4) hx hb dL_call_51 (by decide +kernel) ?_
  refine lv_icmp_ne (tgt := 63) hx hb dL_call_52 (by decide) (fun _ => ?_) (fun h => absurd h (by decide +kernel))
  refine lv_iload_n hx hb dL_call_63 rfl (lv_at hl 1 rfl) ?_
  refine lv_iconst (v := nI 5) hx hb dL_call_64 (by decide +kernel) ?_
  refine lv_icmp_ne (tgt := 76) hx hb dL_call_65 (by decide) (fun _ => ?_) (fun h => absurd h (by decide +kernel))
  refine lv_iload_n hx hb dL_call_76 rfl (lv_at hl 1 rfl) ?_
  refine lv_bipush (v := nI 6) hx hb dL_call_77 (by decide +kernel) ?_
  refine lv_icmp_ne (tgt := 91) hx hb dL_call_79 (by decide) (fun _ => ?_) (fun h => absurd h (by decide +kernel))
  refine lv_iload_n hx hb dL_call_91 rfl (lv_at hl 1 rfl) ?_
  refine lv_bipush (v := nI 7) hx hb dL_call_92 (by decide +kernel) ?_
  refine lv_icmp_ne (tgt := 106) hx hb dL_call_94 (by decide) (fun _ => ?_) (fun h => absurd h (by decide +kernel))
  refine lv_iload_n hx hb dL_call_106 rfl (lv_at hl 1 rfl) ?_
  refine lv_bipush (v := nI 8) hx hb dL_call_107 (by decide +kernel) ?_
  refine lv_icmp_ne (tgt := 120) hx hb dL_call_109 (by decide) (fun _ => ?_) (fun h => absurd h (by decide +kernel))
  refine lv_iload_n hx hb dL_call_120 rfl (lv_at hl 1 rfl) ?_
  refine lv_bipush (v := nI 9) hx hb dL_call_121 (by decide +kernel) ?_
  refine lv_icmp_ne (tgt := 133) hx hb dL_call_123 (by decide) (fun h => absurd h (by decide +kernel)) (fun _ => ?_)
  refine lv_aload_n hx hb dL_call_126 rfl (lv_at hl 0 rfl) ?_
  refine xcall (vx_runV (As := []) (rest := []) ⟨hx, hb, hml, hown, hts⟩ (c_X5_obey_e1 l hlt G fe (tn 0) (sn 0) ha hsn an oa co len (rR (nn tx) len) (eR (nn tx) len) tx heok hno) (cwV 0 hts gL_call_X5_obey rfl rfl rfl (by decide +kernel) ⟨Nat.le_of_ble_eq_true rfl, Nat.le_of_ble_eq_true rfl⟩) (PJ.preV hE hJ0.jx hRv (P_pre (P_perm pm_FO hP))) rfl rfl hl.1 rfl (lv_room (Nat.le_of_ble_eq_true rfl)) dL_call_127 ⟨Nat.le_of_ble_eq_true rfl, Nat.le_of_ble_eq_true rfl⟩) hS (fun H locs xq ce hk hS hq hv hc => ?_)
  refine vx_catch hown [(⟨0, 272, 273, 75⟩ : ExceptionTableEntry)] (⟨0, 272, 278, 77⟩ : ExceptionTableEntry) [(⟨0, 272, 283, 79⟩ : ExceptionTableEntry)] (htab.trans rfl) (fun z hz => by
      simp only [List.mem_cons, List.not_mem_nil, or_false] at hz
      rcases hz with rfl
      · exact Or.inr ⟨by decide, "java/lang/IndexOutOfBoundsException", hts (.classLink RL 75 "java/lang/IndexOutOfBoundsException") (by decide +kernel), hJ0.jx.2.2.2.2.1.2.1⟩) (by decide) (by decide) (hts (.classLink RL 77 "java/lang/IllegalArgumentException") (by decide +kernel)) (va_Nw.use rfl (hJ0.jx.2.2.2.1 "java/lang/IllegalArgumentException" (by decide))) hq hv hc ?_
  refine lv_astore (lv' := [(4, .ref xq), (0, .ref fe), (1, .int (nI 9)), (2, .int z8), (3, .int z9)]) hx hb dL_call_278 hl (by decide) rfl (fun ls hl => ?_)
  refine lv_bipush (v := -12) hx hb dL_call_280 (by decide +kernel) ?_
  exact W.iret hx hb hr (fun t ht hW => ⟨rfl, trivial, hS.F ht⟩) hS.2.2 dL_call_282
theorem CC_obey_e1 (l : Launch) (hlt : l.stackTraces = false) (G : eG) {lo : Nat} {fe B : Nat} {f sf : Nat → Int32} {ff : Nat → Nat → Int32} {old sz len : Nat} {tx : Nat → Int32} {hsn : Int32} {WC : va_W} (hX : XS G fe f sf ff old sz len tx hsn WC) (hR : PR B f sf ff old sz len tx hsn) (hB : B < 700000000) (hno : ¬ eCp (eR (nn tx) len) = true) (z8 : Int32) (z9 : Int32) : Met l yL_call wsL_call ({ frames := 7, cells := 1, slots := 6, locals := 103 }) (PK lo [.ref fe, .int (nI 9), .int z8, .int z9] G (fun H => va_P G.1 vwCl WC H ∧ va_D (AL lo) WC)) (MV (some (.int (-12))) (fun H => ∃ W', XS G fe f sf ff old sz len tx hsn W' ∧ va_P G.1 vwCl W' H ∧ va_D (inW WC) W') (inW WC)) 1 6 (inW WC) :=
  lift0 (X := fun W' => XS G fe f sf ff old sz len tx hsn W') (C0_obey_e1 l hlt G hX hR hB hno z8 z9) hX
set_option maxHeartbeats 4000000 in
set_option maxRecDepth 100000 in
theorem C0_currentOf_e1 (l : Launch) (hlt : l.stackTraces = false) (G : eG) {lo : Nat} {fe B : Nat} {f sf : Nat → Int32} {ff : Nat → Nat → Int32} {old sz len : Nat} {tx : Nat → Int32} {hsn : Int32} {WC : va_W} (hX : XS G fe f sf ff old sz len tx hsn WC) (hR : PR B f sf ff old sz len tx hsn) (hB : B < 700000000) (p0 : Int32) (hNo : ¬ (nI 0 ≤ p0 ∧ p0 ≤ nI 23)) (z9 : Int32) : Met l yL_call wsL_call ({ frames := 7, cells := 1, slots := 6, locals := 103 }) (PK lo [.ref fe, .int (nI 16), .int p0, .int z9] G (fun H => va_P G.1 vwCl WC H ∧ va_D (AL lo) WC)) (MV (some (.int (-11))) (fun _ => True) noA) 1 6 noA := by
  refine ofBKW (cc := cL_call) (maxL := 5) (ret := some .int) (by decide) rfl (Nat.le_of_ble_eq_true rfl) ?_
  intro p e s m below meth c hx hb hr hlocks hml hown hin hts hE hJ0 hI htab ls hl
  replace hown : s.vm.findClass RL = some m.cls := hown
  have hl : lv_has ls 5 [(0, .ref fe), (1, .int (nI 16)), (2, .int p0), (3, .int z9)] := hl
  obtain ⟨hP, hD0⟩ := hI
  have hRv := xs_recv hE.1 hX hP
  obtain ⟨an, tn, sn, v0, v1, w, tf, tv0, tv1, tw, sv0, sv1, sw, ha, sv, ad, aa, vv0, vv1, ww, oa, co, rfl, hcp, hst, hcs, hcf, had⟩ := hX
  obtain ⟨ho, hos, hof, hold, hz, htx, hk01⟩ := hR
  have hs := okf_shp (by omega) ho
  have hsS := okf_shp (by omega) hos
  have hrg : ∀ k, k < 6 → Shp (ff k) := fun k hk => okf_shp (by omega) (hof k hk)
  have heok := eR_ok htx
  have hrt := rR_le (nn tx) len
  have hS : va_S noA s.heap s.heap [] := va_S.rf
  refine lv_iload_n hx hb dL_call_0 rfl (lv_at hl 1 rfl) ?_
  refine lv_if_ne (tgt := 13) hx hb dL_call_1 (by decide) (fun _ => ?_) (fun h => absurd h (by decide +kernel))
  refine lv_iload_n hx hb dL_call_13 rfl (lv_at hl 1 rfl) ?_
  refine lv_iconst (v := nI 1) hx hb dL_call_14 (by decide +kernel) ?_
  refine lv_icmp_ne (tgt := 26) hx hb dL_call_15 (by decide) (fun _ => ?_) (fun h => absurd h (by decide +kernel))
  refine lv_iload_n hx hb dL_call_26 rfl (lv_at hl 1 rfl) ?_
  refine lv_iconst (v := nI 2) hx hb dL_call_27 (by decide +kernel) ?_
  refine lv_icmp_ne (tgt := 38) hx hb dL_call_28 (by decide) (fun _ => ?_) (fun h => absurd h (by decide +kernel))
  refine lv_iload_n hx hb dL_call_38 rfl (lv_at hl 1 rfl) ?_
  refine lv_iconst (v := nI 3) hx hb dL_call_39 (by decide +kernel) ?_
  refine lv_icmp_ne (tgt := 50) hx hb dL_call_40 (by decide) (fun _ => ?_) (fun h => absurd h (by decide +kernel))
  refine lv_iload_n hx hb dL_call_50 rfl (lv_at hl 1 rfl) ?_
  refine lv_iconst (v := nI 4) hx hb dL_call_51 (by decide +kernel) ?_
  refine lv_icmp_ne (tgt := 63) hx hb dL_call_52 (by decide) (fun _ => ?_) (fun h => absurd h (by decide +kernel))
  refine lv_iload_n hx hb dL_call_63 rfl (lv_at hl 1 rfl) ?_
  refine lv_iconst (v := nI 5) hx hb dL_call_64 (by decide +kernel) ?_
  refine lv_icmp_ne (tgt := 76) hx hb dL_call_65 (by decide) (fun _ => ?_) (fun h => absurd h (by decide +kernel))
  refine lv_iload_n hx hb dL_call_76 rfl (lv_at hl 1 rfl) ?_
  refine lv_bipush (v := nI 6) hx hb dL_call_77 (by decide +kernel) ?_
  refine lv_icmp_ne (tgt := 91) hx hb dL_call_79 (by decide) (fun _ => ?_) (fun h => absurd h (by decide +kernel))
  refine lv_iload_n hx hb dL_call_91 rfl (lv_at hl 1 rfl) ?_
  refine lv_bipush (v := nI 7) hx hb dL_call_92 (by decide +kernel) ?_
  refine lv_icmp_ne (tgt := 106) hx hb dL_call_94 (by decide) (fun _ => ?_) (fun h => absurd h (by decide +kernel))
  refine lv_iload_n hx hb dL_call_106 rfl (lv_at hl 1 rfl) ?_
  refine lv_bipush (v := nI 8) hx hb dL_call_107 (by decide +kernel) ?_
  refine lv_icmp_ne (tgt := 120) hx hb dL_call_109 (by decide) (fun _ => ?_) (fun h => absurd h (by decide +kernel))
  refine lv_iload_n hx hb dL_call_120 rfl (lv_at hl 1 rfl) ?_
  refine lv_bipush (v := nI 9) hx hb dL_call_121 (by decide +kernel) ?_
  refine lv_icmp_ne (tgt := 133) hx hb dL_call_123 (by decide) (fun _ => ?_) (fun h => absurd h (by decide +kernel))
  refine lv_iload_n hx hb dL_call_133 rfl (lv_at hl 1 rfl) ?_
  refine lv_bipush (v := nI 10) hx hb dL_call_134 (by decide +kernel) ?_
  refine lv_icmp_ne (tgt := 146) hx hb dL_call_136 (by decide) (fun _ => ?_) (fun h => absurd h (by decide +kernel))
  refine lv_iload_n hx hb dL_call_146 rfl (lv_at hl 1 rfl) ?_
  refine lv_bipush (v := nI 11) hx hb dL_call_147 (by decide +kernel) ?_
  refine lv_icmp_ne (tgt := 159) hx hb dL_call_149 (by decide) (fun _ => ?_) (fun h => absurd h (by decide +kernel))
  refine lv_iload_n hx hb dL_call_159 rfl (lv_at hl 1 rfl) ?_
  refine lv_bipush (v := nI 12) hx hb dL_call_160 (by decide +kernel) ?_
  refine lv_icmp_ne (tgt := 174) hx hb dL_call_162 (by decide) (fun _ => ?_) (fun h => absurd h (by decide +kernel))
  refine lv_iload_n hx hb dL_call_174 rfl (lv_at hl 1 rfl) ?_
  refine lv_bipush (v := nI 13) hx hb dL_call_175 (by decide +kernel) ?_
  refine lv_icmp_ne (tgt := 189) hx hb dL_call_177 (by decide) (fun _ => ?_) (fun h => absurd h (by decide +kernel))
  refine lv_iload_n hx hb dL_call_189 rfl (lv_at hl 1 rfl) ?_
  refine lv_bipush (v := nI 14) hx hb dL_call_190 (by decide +kernel) ?_
  refine lv_icmp_ne (tgt := 211) hx hb dL_call_192 (by decide) (fun _ => ?_) (fun h => absurd h (by decide +kernel))
  refine lv_iload_n hx hb dL_call_211 rfl (lv_at hl 1 rfl) ?_
  refine lv_bipush (v := nI 15) hx hb dL_call_212 (by decide +kernel) ?_
  refine lv_icmp_ne (tgt := 225) hx hb dL_call_214 (by decide) (fun _ => ?_) (fun h => absurd h (by decide +kernel))
  refine lv_iload_n hx hb dL_call_225 rfl (lv_at hl 1 rfl) ?_
  refine lv_bipush (v := nI 16) hx hb dL_call_226 (by decide +kernel) ?_
  refine lv_icmp_ne (tgt := 239) hx hb dL_call_228 (by decide) (fun h => absurd h (by decide +kernel)) (fun _ => ?_)
  refine lv_aload_n hx hb dL_call_231 rfl (lv_at hl 0 rfl) ?_
  refine lv_iload_n hx hb dL_call_232 rfl (lv_at hl 2 rfl) ?_
  refine xcall (vx_runV (As := [.int p0]) (rest := []) ⟨hx, hb, hml, hown, hts⟩ (c_X5_currentOf_e1 l hlt G fe p0 hNo) (cwV 1 hts gL_call_X5_currentOf rfl rfl rfl (by decide +kernel) ⟨Nat.le_of_ble_eq_true rfl, Nat.le_of_ble_eq_true rfl⟩) (PJ.preV hE hJ0.jx hRv P_nil) rfl rfl hl.1 rfl (lv_room (Nat.le_of_ble_eq_true rfl)) dL_call_233 ⟨Nat.le_of_ble_eq_true rfl, Nat.le_of_ble_eq_true rfl⟩) hS (fun H locs xq ce hk hS hq hv hc => ?_)
  refine vx_catch hown [] (⟨0, 272, 273, 75⟩ : ExceptionTableEntry) [(⟨0, 272, 278, 77⟩ : ExceptionTableEntry), (⟨0, 272, 283, 79⟩ : ExceptionTableEntry)] (htab.trans rfl) (fun z hz => by cases hz) (by decide) (by decide) (hts (.classLink RL 75 "java/lang/IndexOutOfBoundsException") (by decide +kernel)) (va_Nw.use rfl (hJ0.jx.2.2.2.1 "java/lang/IndexOutOfBoundsException" (by decide))) hq hv hc ?_
  refine lv_astore (lv' := [(4, .ref xq), (0, .ref fe), (1, .int (nI 16)), (2, .int p0), (3, .int z9)]) hx hb dL_call_273 hl (by decide) rfl (fun ls hl => ?_)
  refine lv_bipush (v := -11) hx hb dL_call_275 (by decide +kernel) ?_
  exact W.iret hx hb hr (fun t ht hW => ⟨rfl, trivial, hS.F ht⟩) hS.2.2 dL_call_277
theorem CC_currentOf_e1 (l : Launch) (hlt : l.stackTraces = false) (G : eG) {lo : Nat} {fe B : Nat} {f sf : Nat → Int32} {ff : Nat → Nat → Int32} {old sz len : Nat} {tx : Nat → Int32} {hsn : Int32} {WC : va_W} (hX : XS G fe f sf ff old sz len tx hsn WC) (hR : PR B f sf ff old sz len tx hsn) (hB : B < 700000000) (p0 : Int32) (hNo : ¬ (nI 0 ≤ p0 ∧ p0 ≤ nI 23)) (z9 : Int32) : Met l yL_call wsL_call ({ frames := 7, cells := 1, slots := 6, locals := 103 }) (PK lo [.ref fe, .int (nI 16), .int p0, .int z9] G (fun H => va_P G.1 vwCl WC H ∧ va_D (AL lo) WC)) (MV (some (.int (-11))) (fun H => ∃ W', XS G fe f sf ff old sz len tx hsn W' ∧ va_P G.1 vwCl W' H ∧ va_D (inW WC) W') (inW WC)) 1 6 (inW WC) :=
  lift0 (X := fun W' => XS G fe f sf ff old sz len tx hsn W') (C0_currentOf_e1 l hlt G hX hR hB p0 hNo z9) hX
set_option maxHeartbeats 4000000 in
set_option maxRecDepth 100000 in
theorem C0_setting_e1 (l : Launch) (hlt : l.stackTraces = false) (G : eG) {lo : Nat} {fe B : Nat} {f sf : Nat → Int32} {ff : Nat → Nat → Int32} {old sz len : Nat} {tx : Nat → Int32} {hsn : Int32} {WC : va_W} (hX : XS G fe f sf ff old sz len tx hsn WC) (hR : PR B f sf ff old sz len tx hsn) (hB : B < 700000000) (p0 : Int32) (hNo : ¬ (nI 0 ≤ p0 ∧ p0 ≤ nI 2)) (z9 : Int32) : Met l yL_call wsL_call ({ frames := 7, cells := 1, slots := 6, locals := 103 }) (PK lo [.ref fe, .int (nI 17), .int p0, .int z9] G (fun H => va_P G.1 vwCl WC H ∧ va_D (AL lo) WC)) (MV (some (.int (-11))) (fun _ => True) noA) 1 6 noA := by
  refine ofBKW (cc := cL_call) (maxL := 5) (ret := some .int) (by decide) rfl (Nat.le_of_ble_eq_true rfl) ?_
  intro p e s m below meth c hx hb hr hlocks hml hown hin hts hE hJ0 hI htab ls hl
  replace hown : s.vm.findClass RL = some m.cls := hown
  have hl : lv_has ls 5 [(0, .ref fe), (1, .int (nI 17)), (2, .int p0), (3, .int z9)] := hl
  obtain ⟨hP, hD0⟩ := hI
  have hRv := xs_recv hE.1 hX hP
  obtain ⟨an, tn, sn, v0, v1, w, tf, tv0, tv1, tw, sv0, sv1, sw, ha, sv, ad, aa, vv0, vv1, ww, oa, co, rfl, hcp, hst, hcs, hcf, had⟩ := hX
  obtain ⟨ho, hos, hof, hold, hz, htx, hk01⟩ := hR
  have hs := okf_shp (by omega) ho
  have hsS := okf_shp (by omega) hos
  have hrg : ∀ k, k < 6 → Shp (ff k) := fun k hk => okf_shp (by omega) (hof k hk)
  have heok := eR_ok htx
  have hrt := rR_le (nn tx) len
  have hS : va_S noA s.heap s.heap [] := va_S.rf
  refine lv_iload_n hx hb dL_call_0 rfl (lv_at hl 1 rfl) ?_
  refine lv_if_ne (tgt := 13) hx hb dL_call_1 (by decide) (fun _ => ?_) (fun h => absurd h (by decide +kernel))
  refine lv_iload_n hx hb dL_call_13 rfl (lv_at hl 1 rfl) ?_
  refine lv_iconst (v := nI 1) hx hb dL_call_14 (by decide +kernel) ?_
  refine lv_icmp_ne (tgt := 26) hx hb dL_call_15 (by decide) (fun _ => ?_) (fun h => absurd h (by decide +kernel))
  refine lv_iload_n hx hb dL_call_26 rfl (lv_at hl 1 rfl) ?_
  refine lv_iconst (v := nI 2) hx hb dL_call_27 (by decide +kernel) ?_
  refine lv_icmp_ne (tgt := 38) hx hb dL_call_28 (by decide) (fun _ => ?_) (fun h => absurd h (by decide +kernel))
  refine lv_iload_n hx hb dL_call_38 rfl (lv_at hl 1 rfl) ?_
  refine lv_iconst (v := nI 3) hx hb dL_call_39 (by decide +kernel) ?_
  refine lv_icmp_ne (tgt := 50) hx hb dL_call_40 (by decide) (fun _ => ?_) (fun h => absurd h (by decide +kernel))
  refine lv_iload_n hx hb dL_call_50 rfl (lv_at hl 1 rfl) ?_
  refine lv_iconst (v := nI 4) hx hb dL_call_51 (by decide +kernel) ?_
  refine lv_icmp_ne (tgt := 63) hx hb dL_call_52 (by decide) (fun _ => ?_) (fun h => absurd h (by decide +kernel))
  refine lv_iload_n hx hb dL_call_63 rfl (lv_at hl 1 rfl) ?_
  refine lv_iconst (v := nI 5) hx hb dL_call_64 (by decide +kernel) ?_
  refine lv_icmp_ne (tgt := 76) hx hb dL_call_65 (by decide) (fun _ => ?_) (fun h => absurd h (by decide +kernel))
  refine lv_iload_n hx hb dL_call_76 rfl (lv_at hl 1 rfl) ?_
  refine lv_bipush (v := nI 6) hx hb dL_call_77 (by decide +kernel) ?_
  refine lv_icmp_ne (tgt := 91) hx hb dL_call_79 (by decide) (fun _ => ?_) (fun h => absurd h (by decide +kernel))
  refine lv_iload_n hx hb dL_call_91 rfl (lv_at hl 1 rfl) ?_
  refine lv_bipush (v := nI 7) hx hb dL_call_92 (by decide +kernel) ?_
  refine lv_icmp_ne (tgt := 106) hx hb dL_call_94 (by decide) (fun _ => ?_) (fun h => absurd h (by decide +kernel))
  refine lv_iload_n hx hb dL_call_106 rfl (lv_at hl 1 rfl) ?_
  refine lv_bipush (v := nI 8) hx hb dL_call_107 (by decide +kernel) ?_
  refine lv_icmp_ne (tgt := 120) hx hb dL_call_109 (by decide) (fun _ => ?_) (fun h => absurd h (by decide +kernel))
  refine lv_iload_n hx hb dL_call_120 rfl (lv_at hl 1 rfl) ?_
  refine lv_bipush (v := nI 9) hx hb dL_call_121 (by decide +kernel) ?_
  refine lv_icmp_ne (tgt := 133) hx hb dL_call_123 (by decide) (fun _ => ?_) (fun h => absurd h (by decide +kernel))
  refine lv_iload_n hx hb dL_call_133 rfl (lv_at hl 1 rfl) ?_
  refine lv_bipush (v := nI 10) hx hb dL_call_134 (by decide +kernel) ?_
  refine lv_icmp_ne (tgt := 146) hx hb dL_call_136 (by decide) (fun _ => ?_) (fun h => absurd h (by decide +kernel))
  refine lv_iload_n hx hb dL_call_146 rfl (lv_at hl 1 rfl) ?_
  refine lv_bipush (v := nI 11) hx hb dL_call_147 (by decide +kernel) ?_
  refine lv_icmp_ne (tgt := 159) hx hb dL_call_149 (by decide) (fun _ => ?_) (fun h => absurd h (by decide +kernel))
  refine lv_iload_n hx hb dL_call_159 rfl (lv_at hl 1 rfl) ?_
  refine lv_bipush (v := nI 12) hx hb dL_call_160 (by decide +kernel) ?_
  refine lv_icmp_ne (tgt := 174) hx hb dL_call_162 (by decide) (fun _ => ?_) (fun h => absurd h (by decide +kernel))
  refine lv_iload_n hx hb dL_call_174 rfl (lv_at hl 1 rfl) ?_
  refine lv_bipush (v := nI 13) hx hb dL_call_175 (by decide +kernel) ?_
  refine lv_icmp_ne (tgt := 189) hx hb dL_call_177 (by decide) (fun _ => ?_) (fun h => absurd h (by decide +kernel))
  refine lv_iload_n hx hb dL_call_189 rfl (lv_at hl 1 rfl) ?_
  refine lv_bipush (v := nI 14) hx hb dL_call_190 (by decide +kernel) ?_
  refine lv_icmp_ne (tgt := 211) hx hb dL_call_192 (by decide) (fun _ => ?_) (fun h => absurd h (by decide +kernel))
  refine lv_iload_n hx hb dL_call_211 rfl (lv_at hl 1 rfl) ?_
  refine lv_bipush (v := nI 15) hx hb dL_call_212 (by decide +kernel) ?_
  refine lv_icmp_ne (tgt := 225) hx hb dL_call_214 (by decide) (fun _ => ?_) (fun h => absurd h (by decide +kernel))
  refine lv_iload_n hx hb dL_call_225 rfl (lv_at hl 1 rfl) ?_
  refine lv_bipush (v := nI 16) hx hb dL_call_226 (by decide +kernel) ?_
  refine lv_icmp_ne (tgt := 239) hx hb dL_call_228 (by decide) (fun _ => ?_) (fun h => absurd h (by decide +kernel))
  refine lv_iload_n hx hb dL_call_239 rfl (lv_at hl 1 rfl) ?_
  refine lv_bipush (v := nI 17) hx hb dL_call_240 (by decide +kernel) ?_
  refine lv_icmp_ne (tgt := 253) hx hb dL_call_242 (by decide) (fun h => absurd h (by decide +kernel)) (fun _ => ?_)
  refine lv_aload_n hx hb dL_call_245 rfl (lv_at hl 0 rfl) ?_
  refine lv_iload_n hx hb dL_call_246 rfl (lv_at hl 2 rfl) ?_
  refine xcall (vx_runV (As := [.int p0]) (rest := []) ⟨hx, hb, hml, hown, hts⟩ (c_X5_setting_e1 l hlt G fe p0 hNo) (cwV 1 hts gL_call_X5_setting rfl rfl rfl (by decide +kernel) ⟨Nat.le_of_ble_eq_true rfl, Nat.le_of_ble_eq_true rfl⟩) (PJ.preV hE hJ0.jx hRv P_nil) rfl rfl hl.1 rfl (lv_room (Nat.le_of_ble_eq_true rfl)) dL_call_247 ⟨Nat.le_of_ble_eq_true rfl, Nat.le_of_ble_eq_true rfl⟩) hS (fun H locs xq ce hk hS hq hv hc => ?_)
  refine vx_catch hown [] (⟨0, 272, 273, 75⟩ : ExceptionTableEntry) [(⟨0, 272, 278, 77⟩ : ExceptionTableEntry), (⟨0, 272, 283, 79⟩ : ExceptionTableEntry)] (htab.trans rfl) (fun z hz => by cases hz) (by decide) (by decide) (hts (.classLink RL 75 "java/lang/IndexOutOfBoundsException") (by decide +kernel)) (va_Nw.use rfl (hJ0.jx.2.2.2.1 "java/lang/IndexOutOfBoundsException" (by decide))) hq hv hc ?_
  refine lv_astore (lv' := [(4, .ref xq), (0, .ref fe), (1, .int (nI 17)), (2, .int p0), (3, .int z9)]) hx hb dL_call_273 hl (by decide) rfl (fun ls hl => ?_)
  refine lv_bipush (v := -11) hx hb dL_call_275 (by decide +kernel) ?_
  exact W.iret hx hb hr (fun t ht hW => ⟨rfl, trivial, hS.F ht⟩) hS.2.2 dL_call_277

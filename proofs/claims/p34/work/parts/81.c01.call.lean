theorem CC_current_e2 (l : Launch) (hlt : l.stackTraces = false) (G : eG) {lo : Nat} {fe B : Nat} {f sf : Nat → Int32} {ff : Nat → Nat → Int32} {old sz len : Nat} {tx : Nat → Int32} {hsn : Int32} {WC : va_W} (hX : XS G fe f sf ff old sz len tx hsn WC) (hR : PR B f sf ff old sz len tx hsn) (hB : B < 700000000) (p0 : Int32) (p1 : Int32) (h1 : nI 0 ≤ p0 ∧ p0 ≤ nI 23) (hNo : ¬ (nI 0 ≤ p1 ∧ p1 ≤ nI 40)) : Met l yL_call wsL_call ({ frames := 7, cells := 1, slots := 6, locals := 105 }) (PK lo [.ref fe, .int (nI 6), .int p0, .int p1] G (fun H => va_P G.1 vwCl WC H ∧ va_D (AL lo) WC)) (MV (some (.int (-12))) (fun H => ∃ W', XS G fe f sf ff old sz len tx hsn W' ∧ va_P G.1 vwCl W' H ∧ va_D (inW WC) W') (inW WC)) 1 6 (inW WC) :=
  lift0 (X := fun W' => XS G fe f sf ff old sz len tx hsn W') (C0_current_e2 l hlt G hX hR hB p0 p1 h1 hNo) hX
set_option maxHeartbeats 4000000 in
set_option maxRecDepth 100000 in
theorem C0_arrive_e1 (l : Launch) (hlt : l.stackTraces = false) (G : eG) {lo : Nat} {fe B : Nat} {f sf : Nat → Int32} {ff : Nat → Nat → Int32} {old sz len : Nat} {tx : Nat → Int32} {hsn : Int32} {WC : va_W} (hX : XS G fe f sf ff old sz len tx hsn WC) (hR : PR B f sf ff old sz len tx hsn) (hB : B < 700000000) (p0 : Int32) (p1 : Int32) (hNo : ¬ (nI 0 ≤ p0 ∧ p0 ≤ nI 1)) : Met l yL_call wsL_call ({ frames := 7, cells := 1, slots := 6, locals := 104 }) (PK lo [.ref fe, .int (nI 0), .int p0, .int p1] G (fun H => va_P G.1 vwCl WC H ∧ va_D (AL lo) WC)) (MV (some (.int (-11))) (fun _ => True) noA) 1 6 noA := by
  refine ofBKW (cc := cL_call) (maxL := 5) (ret := some .int) (by decide) rfl (Nat.le_of_ble_eq_true rfl) ?_
  intro p e s m below meth c hx hb hr hlocks hml hown hin hts hE hJ0 hI htab ls hl
  replace hown : s.vm.findClass RL = some m.cls := hown
  have hl : lv_has ls 5 [(0, .ref fe), (1, .int (nI 0)), (2, .int p0), (3, .int p1)] := hl
  obtain ⟨hP, hD0⟩ := hI
  have hRv := xs_recv hE.1 hX hP
  obtain ⟨an, tn, sn, v0, v1, w, tf, tv0, tv1, tw, sv0, sv1, sw, ha, sv, ad, aa, vv0, vv1, ww, oa, co, rfl, hcp, hst, hcs, hcf, had⟩ := hX
  obtain ⟨ho, hos, hof, hold, hz, htx, hk01⟩ := hR
  have hs := okf_shp (by omega) ho
  have hsS := okf_shp (by omega) hos
  have hrg : ∀ k, k < 6 → Shp (ff k) := fun k hk => okf_shp (by omega) (hof k hk)
  have heok := eR_ok htx
  have hrt := rR_le (nn tx) len
  have hS : va_S noA s.heap s.heap [] := va_S.rf
  refine lv_iload_n hx hb dL_call_0 rfl (lv_at hl 1 rfl) ?_
  refine lv_if_ne (tgt := 13) hx hb dL_call_1 (by decide) (fun h => absurd h (by decide +kernel)) (fun _ => ?_)
  refine lv_aload_n hx hb dL_call_4 rfl (lv_at hl 0 rfl) ?_
  refine lv_iload_n hx hb dL_call_5 rfl (lv_at hl 2 rfl) ?_
  refine lv_iload_n hx hb dL_call_6 rfl (lv_at hl 3 rfl) ?_
  refine xcall (vx_runV (As := [.int p0, .int p1]) (rest := []) ⟨hx, hb, hml, hown, hts⟩ (c_X5_arrive_e1 l hlt G fe p0 p1 hNo) (cwV 2 hts gL_call_X5_arrive rfl rfl rfl (by decide +kernel) ⟨Nat.le_of_ble_eq_true rfl, Nat.le_of_ble_eq_true rfl⟩) (PJ.preV hE hJ0.jx hRv P_nil) rfl rfl hl.1 rfl (lv_room (Nat.le_of_ble_eq_true rfl)) dL_call_7 ⟨Nat.le_of_ble_eq_true rfl, Nat.le_of_ble_eq_true rfl⟩) hS (fun H locs xq ce hk hS hq hv hc => ?_)
  refine vx_catch hown [] (⟨0, 272, 273, 75⟩ : ExceptionTableEntry) [(⟨0, 272, 278, 77⟩ : ExceptionTableEntry), (⟨0, 272, 283, 79⟩ : ExceptionTableEntry)] (htab.trans rfl) (fun z hz => by cases hz) (by decide) (by decide) (hts (.classLink RL 75 "java/lang/IndexOutOfBoundsException") (by decide +kernel)) (va_Nw.use rfl (hJ0.jx.2.2.2.1 "java/lang/IndexOutOfBoundsException" (by decide))) hq hv hc ?_
  refine lv_astore (lv' := [(4, .ref xq), (0, .ref fe), (1, .int (nI 0)), (2, .int p0), (3, .int p1)]) hx hb dL_call_273 hl (by decide) rfl (fun ls hl => ?_)
  refine lv_bipush (v := -11) hx hb dL_call_275 (by decide +kernel) ?_
  exact W.iret hx hb hr (fun t ht hW => ⟨rfl, trivial, hS.F ht⟩) hS.2.2 dL_call_277
theorem CC_arrive_e1 (l : Launch) (hlt : l.stackTraces = false) (G : eG) {lo : Nat} {fe B : Nat} {f sf : Nat → Int32} {ff : Nat → Nat → Int32} {old sz len : Nat} {tx : Nat → Int32} {hsn : Int32} {WC : va_W} (hX : XS G fe f sf ff old sz len tx hsn WC) (hR : PR B f sf ff old sz len tx hsn) (hB : B < 700000000) (p0 : Int32) (p1 : Int32) (hNo : ¬ (nI 0 ≤ p0 ∧ p0 ≤ nI 1)) : Met l yL_call wsL_call ({ frames := 7, cells := 1, slots := 6, locals := 104 }) (PK lo [.ref fe, .int (nI 0), .int p0, .int p1] G (fun H => va_P G.1 vwCl WC H ∧ va_D (AL lo) WC)) (MV (some (.int (-11))) (fun H => ∃ W', XS G fe f sf ff old sz len tx hsn W' ∧ va_P G.1 vwCl W' H ∧ va_D (inW WC) W') (inW WC)) 1 6 (inW WC) :=
  lift0 (X := fun W' => XS G fe f sf ff old sz len tx hsn W') (C0_arrive_e1 l hlt G hX hR hB p0 p1 hNo) hX
set_option maxHeartbeats 4000000 in
set_option maxRecDepth 100000 in
theorem C0_arrive_e2 (l : Launch) (hlt : l.stackTraces = false) (G : eG) {lo : Nat} {fe B : Nat} {f sf : Nat → Int32} {ff : Nat → Nat → Int32} {old sz len : Nat} {tx : Nat → Int32} {hsn : Int32} {WC : va_W} (hX : XS G fe f sf ff old sz len tx hsn WC) (hR : PR B f sf ff old sz len tx hsn) (hB : B < 700000000) (p0 : Int32) (p1 : Int32) (h1 : nI 0 ≤ p0 ∧ p0 ≤ nI 1) (hNo : ¬ (nI 1 ≤ p1 ∧ p1 ≤ nI 20)) : Met l yL_call wsL_call ({ frames := 7, cells := 1, slots := 6, locals := 104 }) (PK lo [.ref fe, .int (nI 0), .int p0, .int p1] G (fun H => va_P G.1 vwCl WC H ∧ va_D (AL lo) WC)) (MV (some (.int (-12))) (fun _ => True) noA) 1 6 noA := by
  refine ofBKW (cc := cL_call) (maxL := 5) (ret := some .int) (by decide) rfl (Nat.le_of_ble_eq_true rfl) ?_
  intro p e s m below meth c hx hb hr hlocks hml hown hin hts hE hJ0 hI htab ls hl
  replace hown : s.vm.findClass RL = some m.cls := hown
  have hl : lv_has ls 5 [(0, .ref fe), (1, .int (nI 0)), (2, .int p0), (3, .int p1)] := hl
  obtain ⟨hP, hD0⟩ := hI
  have hRv := xs_recv hE.1 hX hP
  obtain ⟨an, tn, sn, v0, v1, w, tf, tv0, tv1, tw, sv0, sv1, sw, ha, sv, ad, aa, vv0, vv1, ww, oa, co, rfl, hcp, hst, hcs, hcf, had⟩ := hX
  obtain ⟨ho, hos, hof, hold, hz, htx, hk01⟩ := hR
  have hs := okf_shp (by omega) ho
  have hsS := okf_shp (by omega) hos
  have hrg : ∀ k, k < 6 → Shp (ff k) := fun k hk => okf_shp (by omega) (hof k hk)
  have heok := eR_ok htx
  have hrt := rR_le (nn tx) len
  have hS : va_S noA s.heap s.heap [] := va_S.rf
  refine lv_iload_n hx hb dL_call_0 rfl (lv_at hl 1 rfl) ?_
  refine lv_if_ne (tgt := 13) hx hb dL_call_1 (by decide) (fun h => absurd h (by decide +kernel)) (fun _ => ?_)
  refine lv_aload_n hx hb dL_call_4 rfl (lv_at hl 0 rfl) ?_
  refine lv_iload_n hx hb dL_call_5 rfl (lv_at hl 2 rfl) ?_
  refine lv_iload_n hx hb dL_call_6 rfl (lv_at hl 3 rfl) ?_
  refine xcall (vx_runV (As := [.int p0, .int p1]) (rest := []) ⟨hx, hb, hml, hown, hts⟩ (c_X5_arrive_e2 l hlt G fe p0 p1 h1 hNo) (cwV 2 hts gL_call_X5_arrive rfl rfl rfl (by decide +kernel) ⟨Nat.le_of_ble_eq_true rfl, Nat.le_of_ble_eq_true rfl⟩) (PJ.preV hE hJ0.jx hRv P_nil) rfl rfl hl.1 rfl (lv_room (Nat.le_of_ble_eq_true rfl)) dL_call_7 ⟨Nat.le_of_ble_eq_true rfl, Nat.le_of_ble_eq_true rfl⟩) hS (fun H locs xq ce hk hS hq hv hc => ?_)
  refine vx_catch hown [(⟨0, 272, 273, 75⟩ : ExceptionTableEntry)] (⟨0, 272, 278, 77⟩ : ExceptionTableEntry) [(⟨0, 272, 283, 79⟩ : ExceptionTableEntry)] (htab.trans rfl) (fun z hz => by
      simp only [List.mem_cons, List.not_mem_nil, or_false] at hz
      rcases hz with rfl
      · exact Or.inr ⟨by decide, "java/lang/IndexOutOfBoundsException", hts (.classLink RL 75 "java/lang/IndexOutOfBoundsException") (by decide +kernel), hJ0.jx.2.2.2.2.1.2.1⟩) (by decide) (by decide) (hts (.classLink RL 77 "java/lang/IllegalArgumentException") (by decide +kernel)) (va_Nw.use rfl (hJ0.jx.2.2.2.1 "java/lang/IllegalArgumentException" (by decide))) hq hv hc ?_
  refine lv_astore (lv' := [(4, .ref xq), (0, .ref fe), (1, .int (nI 0)), (2, .int p0), (3, .int p1)]) hx hb dL_call_278 hl (by decide) rfl (fun ls hl => ?_)
  refine lv_bipush (v := -12) hx hb dL_call_280 (by decide +kernel) ?_
  exact W.iret hx hb hr (fun t ht hW => ⟨rfl, trivial, hS.F ht⟩) hS.2.2 dL_call_282
theorem CC_arrive_e2 (l : Launch) (hlt : l.stackTraces = false) (G : eG) {lo : Nat} {fe B : Nat} {f sf : Nat → Int32} {ff : Nat → Nat → Int32} {old sz len : Nat} {tx : Nat → Int32} {hsn : Int32} {WC : va_W} (hX : XS G fe f sf ff old sz len tx hsn WC) (hR : PR B f sf ff old sz len tx hsn) (hB : B < 700000000) (p0 : Int32) (p1 : Int32) (h1 : nI 0 ≤ p0 ∧ p0 ≤ nI 1) (hNo : ¬ (nI 1 ≤ p1 ∧ p1 ≤ nI 20)) : Met l yL_call wsL_call ({ frames := 7, cells := 1, slots := 6, locals := 104 }) (PK lo [.ref fe, .int (nI 0), .int p0, .int p1] G (fun H => va_P G.1 vwCl WC H ∧ va_D (AL lo) WC)) (MV (some (.int (-12))) (fun H => ∃ W', XS G fe f sf ff old sz len tx hsn W' ∧ va_P G.1 vwCl W' H ∧ va_D (inW WC) W') (inW WC)) 1 6 (inW WC) :=
  lift0 (X := fun W' => XS G fe f sf ff old sz len tx hsn W') (C0_arrive_e2 l hlt G hX hR hB p0 p1 h1 hNo) hX
set_option maxHeartbeats 4000000 in
set_option maxRecDepth 100000 in
theorem C0_arrive_e3 (l : Launch) (hlt : l.stackTraces = false) (G : eG) {lo : Nat} {fe B : Nat} {f sf : Nat → Int32} {ff : Nat → Nat → Int32} {old sz len : Nat} {tx : Nat → Int32} {hsn : Int32} {WC : va_W} (hX : XS G fe f sf ff old sz len tx hsn WC) (hR : PR B f sf ff old sz len tx hsn) (hB : B < 700000000) (b : Nat) (y : Nat) (hb2 : b < 2) (hy1 : 1 ≤ y) (hy : y ≤ 20) (hq : ¬ nn f (57 + 11 * b) < 10) : Met l yL_call wsL_call ({ frames := 7, cells := 1, slots := 6, locals := 104 }) (PK lo [.ref fe, .int (nI 0), .int (nI b), .int (nI y)] G (fun H => va_P G.1 vwCl WC H ∧ va_D (AL lo) WC)) (MV (some (.int (-13))) (fun _ => True) noA) 1 6 noA := by
  refine ofBKW (cc := cL_call) (maxL := 5) (ret := some .int) (by decide) rfl (Nat.le_of_ble_eq_true rfl) ?_
  intro p e s m below meth c hx hb hr hlocks hml hown hin hts hE hJ0 hI htab ls hl
  replace hown : s.vm.findClass RL = some m.cls := hown
  have hl : lv_has ls 5 [(0, .ref fe), (1, .int (nI 0)), (2, .int (nI b)), (3, .int (nI y))] := hl
  obtain ⟨hP, hD0⟩ := hI
  have hRv := xs_recv hE.1 hX hP
  obtain ⟨an, tn, sn, v0, v1, w, tf, tv0, tv1, tw, sv0, sv1, sw, ha, sv, ad, aa, vv0, vv1, ww, oa, co, rfl, hcp, hst, hcs, hcf, had⟩ := hX
  obtain ⟨ho, hos, hof, hold, hz, htx, hk01⟩ := hR
  have hs := okf_shp (by omega) ho
  have hsS := okf_shp (by omega) hos
  have hrg : ∀ k, k < 6 → Shp (ff k) := fun k hk => okf_shp (by omega) (hof k hk)
  have heok := eR_ok htx
  have hrt := rR_le (nn tx) len
  have hS : va_S noA s.heap s.heap [] := va_S.rf
  refine lv_iload_n hx hb dL_call_0 rfl (lv_at hl 1 rfl) ?_
  refine lv_if_ne (tgt := 13) hx hb dL_call_1 (by decide) (fun h => absurd h (by decide +kernel)) (fun _ => ?_)
  refine lv_aload_n hx hb dL_call_4 rfl (lv_at hl 0 rfl) ?_
  refine lv_iload_n hx hb dL_call_5 rfl (lv_at hl 2 rfl) ?_
  refine lv_iload_n hx hb dL_call_6 rfl (lv_at hl 3 rfl) ?_
  refine xcall (vx_runV (As := [.int (nI b), .int (nI y)]) (rest := []) ⟨hx, hb, hml, hown, hts⟩ (c_X5_arrive_e3 l hlt G fe (tn 0) (sn 0) ha oa hsn an f v0 v1 w hs b y hb2 hy1 hy hq) (cwV 2 hts gL_call_X5_arrive rfl rfl rfl (by decide +kernel) ⟨Nat.le_of_ble_eq_true rfl, Nat.le_of_ble_eq_true rfl⟩) (PJ.preV hE hJ0.jx hRv (P_pre (P_perm pm_FN hP))) rfl rfl hl.1 rfl (lv_room (Nat.le_of_ble_eq_true rfl)) dL_call_7 ⟨Nat.le_of_ble_eq_true rfl, Nat.le_of_ble_eq_true rfl⟩) hS (fun H locs xq ce hk hS hq hv hc => ?_)
  refine vx_catch hown [(⟨0, 272, 273, 75⟩ : ExceptionTableEntry), (⟨0, 272, 278, 77⟩ : ExceptionTableEntry)] (⟨0, 272, 283, 79⟩ : ExceptionTableEntry) [] (htab.trans rfl) (fun z hz => by
      simp only [List.mem_cons, List.not_mem_nil, or_false] at hz
      rcases hz with rfl | rfl
      · exact Or.inr ⟨by decide, "java/lang/IndexOutOfBoundsException", hts (.classLink RL 75 "java/lang/IndexOutOfBoundsException") (by decide +kernel), hJ0.jx.2.2.2.2.1.2.2.1⟩
      · exact Or.inr ⟨by decide, "java/lang/IllegalArgumentException", hts (.classLink RL 77 "java/lang/IllegalArgumentException") (by decide +kernel), hJ0.jx.2.2.2.2.1.2.2.2⟩) (by decide) (by decide) (hts (.classLink RL 79 "java/lang/IllegalStateException") (by decide +kernel)) (va_Nw.use rfl (hJ0.jx.2.2.2.1 "java/lang/IllegalStateException" (by decide))) hq hv hc ?_
  refine lv_astore (lv' := [(4, .ref xq), (0, .ref fe), (1, .int (nI 0)), (2, .int (nI b)), (3, .int (nI y))]) hx hb dL_call_283 hl (by decide) rfl (fun ls hl => ?_)
  refine lv_bipush (v := -13) hx hb dL_call_285 (by decide +kernel) ?_
  exact W.iret hx hb hr (fun t ht hW => ⟨rfl, trivial, hS.F ht⟩) hS.2.2 dL_call_287
theorem CC_arrive_e3 (l : Launch) (hlt : l.stackTraces = false) (G : eG) {lo : Nat} {fe B : Nat} {f sf : Nat → Int32} {ff : Nat → Nat → Int32} {old sz len : Nat} {tx : Nat → Int32} {hsn : Int32} {WC : va_W} (hX : XS G fe f sf ff old sz len tx hsn WC) (hR : PR B f sf ff old sz len tx hsn) (hB : B < 700000000) (b : Nat) (y : Nat) (hb2 : b < 2) (hy1 : 1 ≤ y) (hy : y ≤ 20) (hq : ¬ nn f (57 + 11 * b) < 10) : Met l yL_call wsL_call ({ frames := 7, cells := 1, slots := 6, locals := 104 }) (PK lo [.ref fe, .int (nI 0), .int (nI b), .int (nI y)] G (fun H => va_P G.1 vwCl WC H ∧ va_D (AL lo) WC)) (MV (some (.int (-13))) (fun H => ∃ W', XS G fe f sf ff old sz len tx hsn W' ∧ va_P G.1 vwCl W' H ∧ va_D (inW WC) W') (inW WC)) 1 6 (inW WC) :=
  lift0 (X := fun W' => XS G fe f sf ff old sz len tx hsn W') (C0_arrive_e3 l hlt G hX hR hB b y hb2 hy1 hy hq) hX
set_option maxHeartbeats 4000000 in
set_option maxRecDepth 100000 in
theorem C0_load_e1 (l : Launch) (hlt : l.stackTraces = false) (G : eG) {lo : Nat} {fe B : Nat} {f sf : Nat → Int32} {ff : Nat → Nat → Int32} {old sz len : Nat} {tx : Nat → Int32} {hsn : Int32} {WC : va_W} (hX : XS G fe f sf ff old sz len tx hsn WC) (hR : PR B f sf ff old sz len tx hsn) (hB : B < 700000000) (p0 : Int32) (hNo : ¬ (nI 0 ≤ p0 ∧ p0 ≤ nI 1)) (z9 : Int32) : Met l yL_call wsL_call ({ frames := 7, cells := 1, slots := 6, locals := 103 }) (PK lo [.ref fe, .int (nI 1), .int p0, .int z9] G (fun H => va_P G.1 vwCl WC H ∧ va_D (AL lo) WC)) (MV (some (.int (-11))) (fun _ => True) noA) 1 6 noA := by
  refine ofBKW (cc := cL_call) (maxL := 5) (ret := some .int) (by decide) rfl (Nat.le_of_ble_eq_true rfl) ?_
  intro p e s m below meth c hx hb hr hlocks hml hown hin hts hE hJ0 hI htab ls hl
  replace hown : s.vm.findClass RL = some m.cls := hown
  have hl : lv_has ls 5 [(0, .ref fe), (1, .int (nI 1)), (2, .int p0), (3, .int z9)] := hl
  obtain ⟨hP, hD0⟩ := hI
  have hRv := xs_recv hE.1 hX hP
  obtain ⟨an, tn, sn, v0, v1, w, tf, tv0, tv1, tw, sv0, sv1, sw, ha, sv, ad, aa, vv0, vv1, ww, oa, co, rfl, hcp, hst, hcs, hcf, had⟩ := hX
  obtain ⟨ho, hos, hof, hold, hz, htx, hk01⟩ := hR
  have hs := okf_shp (by omega) ho
  have hsS := okf_shp (by omega) hos
  have hrg : ∀ k, k < 6 → Shp (ff k) := fun k hk => okf_shp (by omega) (hof k hk)
  have heok := eR_ok htx
  have hrt := rR_le (nn tx) len
  have hS : va_S noA s.heap s.heap [] := va_S.rf
  refine lv_iload_n hx hb dL_call_0 rfl (lv_at hl 1 rfl) ?_
  refine lv_if_ne (tgt := 13) hx hb dL_call_1 (by decide) (fun _ => ?_) (fun h => absurd h (by decide +kernel))
  refine lv_iload_n hx hb dL_call_13 rfl (lv_at hl 1 rfl) ?_
  refine lv_iconst (v := nI 1) hx hb dL_call_14 (by decide +kernel) ?_
  refine lv_icmp_ne (tgt := 26) hx hb dL_call_15 (by decide) (fun h => absurd h (by decide +kernel)) (fun _ => ?_)
  refine lv_aload_n hx hb dL_call_18 rfl (lv_at hl 0 rfl) ?_
  refine lv_iload_n hx hb dL_call_19 rfl (lv_at hl 2 rfl) ?_
  refine xcall (vx_runV (As := [.int p0]) (rest := []) ⟨hx, hb, hml, hown, hts⟩ (c_X5_load_e1 l hlt G fe p0 hNo) (cwV 1 hts gL_call_X5_load rfl rfl rfl (by decide +kernel) ⟨Nat.le_of_ble_eq_true rfl, Nat.le_of_ble_eq_true rfl⟩) (PJ.preV hE hJ0.jx hRv P_nil) rfl rfl hl.1 rfl (lv_room (Nat.le_of_ble_eq_true rfl)) dL_call_20 ⟨Nat.le_of_ble_eq_true rfl, Nat.le_of_ble_eq_true rfl⟩) hS (fun H locs xq ce hk hS hq hv hc => ?_)
  refine vx_catch hown [] (⟨0, 272, 273, 75⟩ : ExceptionTableEntry) [(⟨0, 272, 278, 77⟩ : ExceptionTableEntry), (⟨0, 272, 283, 79⟩ : ExceptionTableEntry)] (htab.trans rfl) (fun z hz => by cases hz) (by decide) (by decide) (hts (.classLink RL 75 "java/lang/IndexOutOfBoundsException") (by decide +kernel)) (va_Nw.use rfl (hJ0.jx.2.2.2.1 "java/lang/IndexOutOfBoundsException" (by decide))) hq hv hc ?_
  refine lv_astore (lv' := [(4, .ref xq), (0, .ref fe), (1, .int (nI 1)), (2, .int p0), (3, .int z9)]) hx hb dL_call_273 hl (by decide) rfl (fun ls hl => ?_)
  refine lv_bipush (v := -11) hx hb dL_call_275 (by decide +kernel) ?_
  exact W.iret hx hb hr (fun t ht hW => ⟨rfl, trivial, hS.F ht⟩) hS.2.2 dL_call_277
theorem CC_load_e1 (l : Launch) (hlt : l.stackTraces = false) (G : eG) {lo : Nat} {fe B : Nat} {f sf : Nat → Int32} {ff : Nat → Nat → Int32} {old sz len : Nat} {tx : Nat → Int32} {hsn : Int32} {WC : va_W} (hX : XS G fe f sf ff old sz len tx hsn WC) (hR : PR B f sf ff old sz len tx hsn) (hB : B < 700000000) (p0 : Int32) (hNo : ¬ (nI 0 ≤ p0 ∧ p0 ≤ nI 1)) (z9 : Int32) : Met l yL_call wsL_call ({ frames := 7, cells := 1, slots := 6, locals := 103 }) (PK lo [.ref fe, .int (nI 1), .int p0, .int z9] G (fun H => va_P G.1 vwCl WC H ∧ va_D (AL lo) WC)) (MV (some (.int (-11))) (fun H => ∃ W', XS G fe f sf ff old sz len tx hsn W' ∧ va_P G.1 vwCl W' H ∧ va_D (inW WC) W') (inW WC)) 1 6 (inW WC) :=
  lift0 (X := fun W' => XS G fe f sf ff old sz len tx hsn W') (C0_load_e1 l hlt G hX hR hB p0 hNo z9) hX
set_option maxHeartbeats 4000000 in
set_option maxRecDepth 100000 in
theorem C0_load_e2 (l : Launch) (hlt : l.stackTraces = false) (G : eG) {lo : Nat} {fe B : Nat} {f sf : Nat → Int32} {ff : Nat → Nat → Int32} {old sz len : Nat} {tx : Nat → Int32} {hsn : Int32} {WC : va_W} (hX : XS G fe f sf ff old sz len tx hsn WC) (hR : PR B f sf ff old sz len tx hsn) (hB : B < 700000000) (q : Nat) (hq : q < 2) (hcan : ¬ fCan f q = true) (z9 : Int32) : Met l yL_call wsL_call ({ frames := 7, cells := 1, slots := 6, locals := 103 }) (PK lo [.ref fe, .int (nI 1), .int (nI q), .int z9] G (fun H => va_P G.1 vwCl WC H ∧ va_D (AL lo) WC)) (MV (some (.int (-13))) (fun _ => True) noA) 1 6 noA := by
  refine ofBKW (cc := cL_call) (maxL := 5) (ret := some .int) (by decide) rfl (Nat.le_of_ble_eq_true rfl) ?_
  intro p e s m below meth c hx hb hr hlocks hml hown hin hts hE hJ0 hI htab ls hl
  replace hown : s.vm.findClass RL = some m.cls := hown
  have hl : lv_has ls 5 [(0, .ref fe), (1, .int (nI 1)), (2, .int (nI q)), (3, .int z9)] := hl
  obtain ⟨hP, hD0⟩ := hI
  have hRv := xs_recv hE.1 hX hP
  obtain ⟨an, tn, sn, v0, v1, w, tf, tv0, tv1, tw, sv0, sv1, sw, ha, sv, ad, aa, vv0, vv1, ww, oa, co, rfl, hcp, hst, hcs, hcf, had⟩ := hX
  obtain ⟨ho, hos, hof, hold, hz, htx, hk01⟩ := hR
  have hs := okf_shp (by omega) ho
  have hsS := okf_shp (by omega) hos
  have hrg : ∀ k, k < 6 → Shp (ff k) := fun k hk => okf_shp (by omega) (hof k hk)
  have heok := eR_ok htx
  have hrt := rR_le (nn tx) len
  have hS : va_S noA s.heap s.heap [] := va_S.rf
  refine lv_iload_n hx hb dL_call_0 rfl (lv_at hl 1 rfl) ?_
  refine lv_if_ne (tgt := 13) hx hb dL_call_1 (by decide) (fun _ => ?_) (fun h => absurd h (by decide +kernel))
  refine lv_iload_n hx hb dL_call_13 rfl (lv_at hl 1 rfl) ?_
  refine lv_iconst (v := nI 1) hx hb dL_call_14 (by decide +kernel) ?_
  refine lv_icmp_ne (tgt := 26) hx hb dL_call_15 (by decide) (fun h => absurd h (by decide +kernel)) (fun _ => ?_)
  refine lv_aload_n hx hb dL_call_18 rfl (lv_at hl 0 rfl) ?_
  refine lv_iload_n hx hb dL_call_19 rfl (lv_at hl 2 rfl) ?_
  refine xcall (vx_runV (As := [.int (nI q)]) (rest := []) ⟨hx, hb, hml, hown, hts⟩ (c_X5_load_e2 l hlt G fe (tn 0) (sn 0) ha oa hsn an f v0 v1 w hs q hq hcan) (cwV 1 hts gL_call_X5_load rfl rfl rfl (by decide +kernel) ⟨Nat.le_of_ble_eq_true rfl, Nat.le_of_ble_eq_true rfl⟩) (PJ.preV hE hJ0.jx hRv (P_pre (P_perm pm_FN hP))) rfl rfl hl.1 rfl (lv_room (Nat.le_of_ble_eq_true rfl)) dL_call_20 ⟨Nat.le_of_ble_eq_true rfl, Nat.le_of_ble_eq_true rfl⟩) hS (fun H locs xq ce hk hS hq hv hc => ?_)
  refine vx_catch hown [(⟨0, 272, 273, 75⟩ : ExceptionTableEntry), (⟨0, 272, 278, 77⟩ : ExceptionTableEntry)] (⟨0, 272, 283, 79⟩ : ExceptionTableEntry) [] (htab.trans rfl) (fun z hz => by
      simp only [List.mem_cons, List.not_mem_nil, or_false] at hz
      rcases hz with rfl | rfl
      · exact Or.inr ⟨by decide, "java/lang/IndexOutOfBoundsException", hts (.classLink RL 75 "java/lang/IndexOutOfBoundsException") (by decide +kernel), hJ0.jx.2.2.2.2.1.2.2.1⟩
      · exact Or.inr ⟨by decide, "java/lang/IllegalArgumentException", hts (.classLink RL 77 "java/lang/IllegalArgumentException") (by decide +kernel), hJ0.jx.2.2.2.2.1.2.2.2⟩) (by decide) (by decide) (hts (.classLink RL 79 "java/lang/IllegalStateException") (by decide +kernel)) (va_Nw.use rfl (hJ0.jx.2.2.2.1 "java/lang/IllegalStateException" (by decide))) hq hv hc ?_
  refine lv_astore (lv' := [(4, .ref xq), (0, .ref fe), (1, .int (nI 1)), (2, .int (nI q)), (3, .int z9)]) hx hb dL_call_283 hl (by decide) rfl (fun ls hl => ?_)
  refine lv_bipush (v := -13) hx hb dL_call_285 (by decide +kernel) ?_
  exact W.iret hx hb hr (fun t ht hW => ⟨rfl, trivial, hS.F ht⟩) hS.2.2 dL_call_287
theorem CC_load_e2 (l : Launch) (hlt : l.stackTraces = false) (G : eG) {lo : Nat} {fe B : Nat} {f sf : Nat → Int32} {ff : Nat → Nat → Int32} {old sz len : Nat} {tx : Nat → Int32} {hsn : Int32} {WC : va_W} (hX : XS G fe f sf ff old sz len tx hsn WC) (hR : PR B f sf ff old sz len tx hsn) (hB : B < 700000000) (q : Nat) (hq : q < 2) (hcan : ¬ fCan f q = true) (z9 : Int32) : Met l yL_call wsL_call ({ frames := 7, cells := 1, slots := 6, locals := 103 }) (PK lo [.ref fe, .int (nI 1), .int (nI q), .int z9] G (fun H => va_P G.1 vwCl WC H ∧ va_D (AL lo) WC)) (MV (some (.int (-13))) (fun H => ∃ W', XS G fe f sf ff old sz len tx hsn W' ∧ va_P G.1 vwCl W' H ∧ va_D (inW WC) W') (inW WC)) 1 6 (inW WC) :=
  lift0 (X := fun W' => XS G fe f sf ff old sz len tx hsn W') (C0_load_e2 l hlt G hX hR hB q hq hcan z9) hX
set_option maxHeartbeats 4000000 in
set_option maxRecDepth 100000 in
theorem C0_cross_e1 (l : Launch) (hlt : l.stackTraces = false) (G : eG) {lo : Nat} {fe B : Nat} {f sf : Nat → Int32} {ff : Nat → Nat → Int32} {old sz len : Nat} {tx : Nat → Int32} {hsn : Int32} {WC : va_W} (hX : XS G fe f sf ff old sz len tx hsn WC) (hR : PR B f sf ff old sz len tx hsn) (hB : B < 700000000) (hr0 : ¬ fRsn f = 0) (z8 : Int32) (z9 : Int32) : Met l yL_call wsL_call ({ frames := 7, cells := 1, slots := 6, locals := 113 }) (PK lo [.ref fe, .int (nI 3), .int z8, .int z9] G (fun H => va_P G.1 vwCl WC H ∧ va_D (AL lo) WC)) (MV (some (.int (-13))) (fun _ => True) noA) 1 6 noA := by
  refine ofBKW (cc := cL_call) (maxL := 5) (ret := some .int) (by decide) rfl (Nat.le_of_ble_eq_true rfl) ?_
  intro p e s m below meth c hx hb hr hlocks hml hown hin hts hE hJ0 hI htab ls hl
  replace hown : s.vm.findClass RL = some m.cls := hown
  have hl : lv_has ls 5 [(0, .ref fe), (1, .int (nI 3)), (2, .int z8), (3, .int z9)] := hl
  obtain ⟨hP, hD0⟩ := hI
  have hRv := xs_recv hE.1 hX hP
  obtain ⟨an, tn, sn, v0, v1, w, tf, tv0, tv1, tw, sv0, sv1, sw, ha, sv, ad, aa, vv0, vv1, ww, oa, co, rfl, hcp, hst, hcs, hcf, had⟩ := hX
  obtain ⟨ho, hos, hof, hold, hz, htx, hk01⟩ := hR
  have hs := okf_shp (by omega) ho
  have hsS := okf_shp (by omega) hos
  have hrg : ∀ k, k < 6 → Shp (ff k) := fun k hk => okf_shp (by omega) (hof k hk)
  have heok := eR_ok htx
  have hrt := rR_le (nn tx) len
  have hS : va_S noA s.heap s.heap [] := va_S.rf
  refine lv_iload_n hx hb dL_call_0 rfl (lv_at hl 1 rfl) ?_
  refine lv_if_ne (tgt := 13) hx hb dL_call_1 (by decide) (fun _ => ?_) (fun h => absurd h (by decide +kernel))
  refine lv_iload_n hx hb dL_call_13 rfl (lv_at hl 1 rfl) ?_
  refine lv_iconst (v := nI 1) hx hb dL_call_14 (by decide +kernel) ?_
  refine lv_icmp_ne (tgt := 26) hx hb dL_call_15 (by decide) (fun _ => ?_) (fun h => absurd h (by decide +kernel))
  refine lv_iload_n hx hb dL_call_26 rfl (lv_at hl 1 rfl) ?_
  refine lv_iconst (v := nI 2) hx hb dL_call_27 (by decide +kernel) ?_
  refine lv_icmp_ne (tgt := 38) hx hb dL_call_28 (by decide) (fun _ => ?_) (fun h => absurd h (by decide +kernel))
  refine lv_iload_n hx hb dL_call_38 rfl (lv_at hl 1 rfl) ?_
  refine lv_iconst (v := nI 3) hx hb dL_call_39 (by decide +kernel) ?_
  refine lv_icmp_ne (tgt := 50) hx hb dL_call_40 (by decide) (fun h => absurd h (by decide +kernel)) (fun _ => ?_)
  refine lv_aload_n hx hb dL_call_43 rfl (lv_at hl 0 rfl) ?_
  refine xcall (vx_runV (As := []) (rest := []) ⟨hx, hb, hml, hown, hts⟩ (c_X5_cross_e1 l hlt G fe (tn 0) (sn 0) ha oa hsn an f v0 v1 w hs hr0) (cwV 0 hts gL_call_X5_cross rfl rfl rfl (by decide +kernel) ⟨Nat.le_of_ble_eq_true rfl, Nat.le_of_ble_eq_true rfl⟩) (PJ.preV hE hJ0.jx hRv (P_pre (P_perm pm_FN hP))) rfl rfl hl.1 rfl (lv_room (Nat.le_of_ble_eq_true rfl)) dL_call_44 ⟨Nat.le_of_ble_eq_true rfl, Nat.le_of_ble_eq_true rfl⟩) hS (fun H locs xq ce hk hS hq hv hc => ?_)
  refine vx_catch hown [(⟨0, 272, 273, 75⟩ : ExceptionTableEntry), (⟨0, 272, 278, 77⟩ : ExceptionTableEntry)] (⟨0, 272, 283, 79⟩ : ExceptionTableEntry) [] (htab.trans rfl) (fun z hz => by
      simp only [List.mem_cons, List.not_mem_nil, or_false] at hz
      rcases hz with rfl | rfl
      · exact Or.inr ⟨by decide, "java/lang/IndexOutOfBoundsException", hts (.classLink RL 75 "java/lang/IndexOutOfBoundsException") (by decide +kernel), hJ0.jx.2.2.2.2.1.2.2.1⟩
      · exact Or.inr ⟨by decide, "java/lang/IllegalArgumentException", hts (.classLink RL 77 "java/lang/IllegalArgumentException") (by decide +kernel), hJ0.jx.2.2.2.2.1.2.2.2⟩) (by decide) (by decide) (hts (.classLink RL 79 "java/lang/IllegalStateException") (by decide +kernel)) (va_Nw.use rfl (hJ0.jx.2.2.2.1 "java/lang/IllegalStateException" (by decide))) hq hv hc ?_
  refine lv_astore (lv' := [(4, .ref xq), (0, .ref fe), (1, .int (nI 3)), (2, .int z8), (3, .int z9)]) hx hb dL_call_283 hl (by decide) rfl (fun ls hl => ?_)
  refine lv_bipush (v := -13) hx hb dL_call_285 (by decide +kernel) ?_
  exact W.iret hx hb hr (fun t ht hW => ⟨rfl, trivial, hS.F ht⟩) hS.2.2 dL_call_287
theorem CC_cross_e1 (l : Launch) (hlt : l.stackTraces = false) (G : eG) {lo : Nat} {fe B : Nat} {f sf : Nat → Int32} {ff : Nat → Nat → Int32} {old sz len : Nat} {tx : Nat → Int32} {hsn : Int32} {WC : va_W} (hX : XS G fe f sf ff old sz len tx hsn WC) (hR : PR B f sf ff old sz len tx hsn) (hB : B < 700000000) (hr0 : ¬ fRsn f = 0) (z8 : Int32) (z9 : Int32) : Met l yL_call wsL_call ({ frames := 7, cells := 1, slots := 6, locals := 113 }) (PK lo [.ref fe, .int (nI 3), .int z8, .int z9] G (fun H => va_P G.1 vwCl WC H ∧ va_D (AL lo) WC)) (MV (some (.int (-13))) (fun H => ∃ W', XS G fe f sf ff old sz len tx hsn W' ∧ va_P G.1 vwCl W' H ∧ va_D (inW WC) W') (inW WC)) 1 6 (inW WC) :=
  lift0 (X := fun W' => XS G fe f sf ff old sz len tx hsn W') (C0_cross_e1 l hlt G hX hR hB hr0 z8 z9) hX
set_option maxHeartbeats 4000000 in
set_option maxRecDepth 100000 in
theorem C0_pass_e1 (l : Launch) (hlt : l.stackTraces = false) (G : eG) {lo : Nat} {fe B : Nat} {f sf : Nat → Int32} {ff : Nat → Nat → Int32} {old sz len : Nat} {tx : Nat → Int32} {hsn : Int32} {WC : va_W} (hX : XS G fe f sf ff old sz len tx hsn WC) (hR : PR B f sf ff old sz len tx hsn) (hB : B < 700000000) (p0 : Int32) (hNo : ¬ (nI 1 ≤ p0 ∧ p0 ≤ nI 100)) (z9 : Int32) : Met l yL_call wsL_call ({ frames := 7, cells := 1, slots := 6, locals := 103 }) (PK lo [.ref fe, .int (nI 4), .int p0, .int z9] G (fun H => va_P G.1 vwCl WC H ∧ va_D (AL lo) WC)) (MV (some (.int (-12))) (fun _ => True) noA) 1 6 noA := by
  refine ofBKW (cc := cL_call) (maxL := 5) (ret := some .int) (by decide) rfl (Nat.le_of_ble_eq_true rfl) ?_
  intro p e s m below meth c hx hb hr hlocks hml hown hin hts hE hJ0 hI htab ls hl
  replace hown : s.vm.findClass RL = some m.cls := hown
  have hl : lv_has ls 5 [(0, .ref fe), (1, .int (nI 4)), (2, .int p0), (3, .int z9)] := hl
  obtain ⟨hP, hD0⟩ := hI
  have hRv := xs_recv hE.1 hX hP
  obtain ⟨an, tn, sn, v0, v1, w, tf, tv0, tv1, tw, sv0, sv1, sw, ha, sv, ad, aa, vv0, vv1, ww, oa, co, rfl, hcp, hst, hcs, hcf, had⟩ := hX
  obtain ⟨ho, hos, hof, hold, hz, htx, hk01⟩ := hR
  have hs := okf_shp (by omega) ho
  have hsS := okf_shp (by omega) hos
  have hrg : ∀ k, k < 6 → Shp (ff k) := fun k hk => okf_shp (by omega) (hof k hk)
  have heok := eR_ok htx
  have hrt := rR_le (nn tx) len
  have hS : va_S noA s.heap s.heap [] := va_S.rf
  refine lv_iload_n hx hb dL_call_0 rfl (lv_at hl 1 rfl) ?_
  refine lv_if_ne (tgt := 13) hx hb dL_call_1 (by decide) (fun _ => ?_) (fun h => absurd h (by decide +kernel))
  refine lv_iload_n hx hb dL_call_13 rfl (lv_at hl 1 rfl) ?_
  refine lv_iconst (v := nI 1) hx hb dL_call_14 (by decide +kernel) ?_
  refine lv_icmp_ne (tgt := 26) hx hb dL_call_15 (by decide) (fun _ => ?_) (fun h => absurd h (by decide +kernel))
  refine lv_iload_n hx hb dL_call_26 rfl (lv_at hl 1 rfl) ?_
  refine lv_iconst (v := nI 2) hx hb dL_call_27 (by decide +kernel) ?_
  refine lv_icmp_ne (tgt := 38) hx hb dL_call_28 (by decide) (fun _ => ?_) (fun h => absurd h (by decide +kernel))
  refine lv_iload_n hx hb dL_call_38 rfl (lv_at hl 1 rfl) ?_
  refine lv_iconst (v := nI 3) hx hb dL_call_39 (by decide +kernel) ?_
  refine lv_icmp_ne (tgt := 50) hx hb dL_call_40 (by decide) (fun _ => ?_) (fun h => absurd h (by decide +kernel))
  refine lv_iload_n hx hb dL_call_50 rfl (lv_at hl 1 rfl) ?_
  refine lv_iconst (v := nI 4) hx hb dL_call_51 (by decide +kernel) ?_
  refine lv_icmp_ne (tgt := 63) hx hb dL_call_52 (by decide) (fun h => absurd h (by decide +kernel)) (fun _ => ?_)
  refine lv_aload_n hx hb dL_call_55 rfl (lv_at hl 0 rfl) ?_
  refine lv_iload_n hx hb dL_call_56 rfl (lv_at hl 2 rfl) ?_
  refine xcall (vx_runV (As := [.int p0]) (rest := []) ⟨hx, hb, hml, hown, hts⟩ (c_X5_pass_e1 l hlt G fe p0 hNo) (cwV 1 hts gL_call_X5_pass rfl rfl rfl (by decide +kernel) ⟨Nat.le_of_ble_eq_true rfl, Nat.le_of_ble_eq_true rfl⟩) (PJ.preV hE hJ0.jx hRv P_nil) rfl rfl hl.1 rfl (lv_room (Nat.le_of_ble_eq_true rfl)) dL_call_57 ⟨Nat.le_of_ble_eq_true rfl, Nat.le_of_ble_eq_true rfl⟩) hS (fun H locs xq ce hk hS hq hv hc => ?_)
  refine vx_catch hown [(⟨0, 272, 273, 75⟩ : ExceptionTableEntry)] (⟨0, 272, 278, 77⟩ : ExceptionTableEntry) [(⟨0, 272, 283, 79⟩ : ExceptionTableEntry)] (htab.trans rfl) (fun z hz => by
      simp only [List.mem_cons, List.not_mem_nil, or_false] at hz
      rcases hz with rfl
      · exact Or.inr ⟨by decide, "java/lang/IndexOutOfBoundsException", hts (.classLink RL 75 "java/lang/IndexOutOfBoundsException") (by decide +kernel), hJ0.jx.2.2.2.2.1.2.1⟩) (by decide) (by decide) (hts (.classLink RL 77 "java/lang/IllegalArgumentException") (by decide +kernel)) (va_Nw.use rfl (hJ0.jx.2.2.2.1 "java/lang/IllegalArgumentException" (by decide))) hq hv hc ?_
  refine lv_astore (lv' := [(4, .ref xq), (0, .ref fe), (1, .int (nI 4)), (2, .int p0), (3, .int z9)]) hx hb dL_call_278 hl (by decide) rfl (fun ls hl => ?_)
  refine lv_bipush (v := -12) hx hb dL_call_280 (by decide +kernel) ?_
  exact W.iret hx hb hr (fun t ht hW => ⟨rfl, trivial, hS.F ht⟩) hS.2.2 dL_call_282
theorem CC_pass_e1 (l : Launch) (hlt : l.stackTraces = false) (G : eG) {lo : Nat} {fe B : Nat} {f sf : Nat → Int32} {ff : Nat → Nat → Int32} {old sz len : Nat} {tx : Nat → Int32} {hsn : Int32} {WC : va_W} (hX : XS G fe f sf ff old sz len tx hsn WC) (hR : PR B f sf ff old sz len tx hsn) (hB : B < 700000000) (p0 : Int32) (hNo : ¬ (nI 1 ≤ p0 ∧ p0 ≤ nI 100)) (z9 : Int32) : Met l yL_call wsL_call ({ frames := 7, cells := 1, slots := 6, locals := 103 }) (PK lo [.ref fe, .int (nI 4), .int p0, .int z9] G (fun H => va_P G.1 vwCl WC H ∧ va_D (AL lo) WC)) (MV (some (.int (-12))) (fun H => ∃ W', XS G fe f sf ff old sz len tx hsn W' ∧ va_P G.1 vwCl W' H ∧ va_D (inW WC) W') (inW WC)) 1 6 (inW WC) :=
  lift0 (X := fun W' => XS G fe f sf ff old sz len tx hsn W') (C0_pass_e1 l hlt G hX hR hB p0 hNo z9) hX
set_option maxHeartbeats 4000000 in
set_option maxRecDepth 100000 in
theorem C0_draw_e1 (l : Launch) (hlt : l.stackTraces = false) (G : eG) {lo : Nat} {fe B : Nat} {f sf : Nat → Int32} {ff : Nat → Nat → Int32} {old sz len : Nat} {tx : Nat → Int32} {hsn : Int32} {WC : va_W} (hX : XS G fe f sf ff old sz len tx hsn WC) (hR : PR B f sf ff old sz len tx hsn) (hB : B < 700000000) (p0 : Int32) (hNo : ¬ (nI 1 ≤ p0 ∧ p0 ≤ nI 5)) (z9 : Int32) : Met l yL_call wsL_call ({ frames := 7, cells := 1, slots := 6, locals := 103 }) (PK lo [.ref fe, .int (nI 5), .int p0, .int z9] G (fun H => va_P G.1 vwCl WC H ∧ va_D (AL lo) WC)) (MV (some (.int (-12))) (fun _ => True) noA) 1 6 noA := by
  refine ofBKW (cc := cL_call) (maxL := 5) (ret := some .int) (by decide) rfl (Nat.le_of_ble_eq_true rfl) ?_
  intro p e s m below meth c hx hb hr hlocks hml hown hin hts hE hJ0 hI htab ls hl
  replace hown : s.vm.findClass RL = some m.cls := hown
  have hl : lv_has ls 5 [(0, .ref fe), (1, .int (nI 5)), (2, .int p0), (3, .int z9)] := hl
  obtain ⟨hP, hD0⟩ := hI
  have hRv := xs_recv hE.1 hX hP
  obtain ⟨an, tn, sn, v0, v1, w, tf, tv0, tv1, tw, sv0, sv1, sw, ha, sv, ad, aa, vv0, vv1, ww, oa, co, rfl, hcp, hst, hcs, hcf, had⟩ := hX
  obtain ⟨ho, hos, hof, hold, hz, htx, hk01⟩ := hR
  have hs := okf_shp (by omega) ho
  have hsS := okf_shp (by omega) hos
  have hrg : ∀ k, k < 6 → Shp (ff k) := fun k hk => okf_shp (by omega) (hof k hk)
  have heok := eR_ok htx
  have hrt := rR_le (nn tx) len
  have hS : va_S noA s.heap s.heap [] := va_S.rf
  refine lv_iload_n hx hb dL_call_0 rfl (lv_at hl 1 rfl) ?_
  refine lv_if_ne (tgt := 13) hx hb dL_call_1 (by decide) (fun _ => ?_) (fun h => absurd h (by decide +kernel))
  refine lv_iload_n hx hb dL_call_13 rfl (lv_at hl 1 rfl) ?_
  refine lv_iconst (v := nI 1) hx hb dL_call_14 (by decide +kernel) ?_
  refine lv_icmp_ne (tgt := 26) hx hb dL_call_15 (by decide) (fun _ => ?_) (fun h => absurd h (by decide +kernel))
  refine lv_iload_n hx hb dL_call_26 rfl (lv_at hl 1 rfl) ?_
  refine lv_iconst (v := nI 2) hx hb dL_call_27 (by decide +kernel) ?_
  refine lv_icmp_ne (tgt := 38) hx hb dL_call_28 (by decide) (fun _ => ?_) (fun h => absurd h (by decide +kernel))
  refine lv_iload_n hx hb dL_call_38 rfl (lv_at hl 1 rfl) ?_
  refine lv_iconst (v := nI 3) hx hb dL_call_39 (by decide +kernel) ?_
  refine lv_icmp_ne (tgt := 50) hx hb dL_call_40 (by decide) (fun _ => ?_) (fun h => absurd h (by decide +kernel))
  refine lv_iload_n hx hb dL_call_50 rfl (lv_at hl 1 rfl) ?_
  refine lv_iconst (v := nI 4) hx hb dL_call_51 (by decide +kernel) ?_
  refine lv_icmp_ne (tgt := 63) hx hb dL_call_52 (by decide) (fun _ => ?_) (fun h => absurd h (by decide +kernel))
  refine lv_iload_n hx hb dL_call_63 rfl (lv_at hl 1 rfl) ?_
  refine lv_iconst (v := nI 5) hx hb dL_call_64 (by decide +kernel) ?_
  refine lv_icmp_ne (tgt := 76) hx hb dL_call_65 (by decide) (fun h => absurd h (by decide +kernel)) (fun _ => ?_)
  refine lv_aload_n hx hb dL_call_68 rfl (lv_at hl 0 rfl) ?_
  refine lv_iload_n hx hb dL_call_69 rfl (lv_at hl 2 rfl) ?_
  refine xcall (vx_runV (As := [.int p0]) (rest := []) ⟨hx, hb, hml, hown, hts⟩ (c_X5_draw_e1 l hlt G fe p0 hNo) (cwV 1 hts gL_call_X5_draw rfl rfl rfl (by decide +kernel) ⟨Nat.le_of_ble_eq_true rfl, Nat.le_of_ble_eq_true rfl⟩) (PJ.preV hE hJ0.jx hRv P_nil) rfl rfl hl.1 rfl (lv_room (Nat.le_of_ble_eq_true rfl)) dL_call_70 ⟨Nat.le_of_ble_eq_true rfl, Nat.le_of_ble_eq_true rfl⟩) hS (fun H locs xq ce hk hS hq hv hc => ?_)
  refine vx_catch hown [(⟨0, 272, 273, 75⟩ : ExceptionTableEntry)] (⟨0, 272, 278, 77⟩ : ExceptionTableEntry) [(⟨0, 272, 283, 79⟩ : ExceptionTableEntry)] (htab.trans rfl) (fun z hz => by
      simp only [List.mem_cons, List.not_mem_nil, or_false] at hz
      rcases hz with rfl
      · exact Or.inr ⟨by decide, "java/lang/IndexOutOfBoundsException", hts (.classLink RL 75 "java/lang/IndexOutOfBoundsException") (by decide +kernel), hJ0.jx.2.2.2.2.1.2.1⟩) (by decide) (by decide) (hts (.classLink RL 77 "java/lang/IllegalArgumentException") (by decide +kernel)) (va_Nw.use rfl (hJ0.jx.2.2.2.1 "java/lang/IllegalArgumentException" (by decide))) hq hv hc ?_
  refine lv_astore (lv' := [(4, .ref xq), (0, .ref fe), (1, .int (nI 5)), (2, .int p0), (3, .int z9)]) hx hb dL_call_278 hl (by decide) rfl (fun ls hl => ?_)
  refine lv_bipush (v := -12) hx hb dL_call_280 (by decide +kernel) ?_
  exact W.iret hx hb hr (fun t ht hW => ⟨rfl, trivial, hS.F ht⟩) hS.2.2 dL_call_282
theorem CC_draw_e1 (l : Launch) (hlt : l.stackTraces = false) (G : eG) {lo : Nat} {fe B : Nat} {f sf : Nat → Int32} {ff : Nat → Nat → Int32} {old sz len : Nat} {tx : Nat → Int32} {hsn : Int32} {WC : va_W} (hX : XS G fe f sf ff old sz len tx hsn WC) (hR : PR B f sf ff old sz len tx hsn) (hB : B < 700000000) (p0 : Int32) (hNo : ¬ (nI 1 ≤ p0 ∧ p0 ≤ nI 5)) (z9 : Int32) : Met l yL_call wsL_call ({ frames := 7, cells := 1, slots := 6, locals := 103 }) (PK lo [.ref fe, .int (nI 5), .int p0, .int z9] G (fun H => va_P G.1 vwCl WC H ∧ va_D (AL lo) WC)) (MV (some (.int (-12))) (fun H => ∃ W', XS G fe f sf ff old sz len tx hsn W' ∧ va_P G.1 vwCl W' H ∧ va_D (inW WC) W') (inW WC)) 1 6 (inW WC) :=
  lift0 (X := fun W' => XS G fe f sf ff old sz len tx hsn W') (C0_draw_e1 l hlt G hX hR hB p0 hNo z9) hX
set_option maxHeartbeats 4000000 in
set_option maxRecDepth 100000 in
theorem C0_draw_e2 (l : Launch) (hlt : l.stackTraces = false) (G : eG) {lo : Nat} {fe B : Nat} {f sf : Nat → Int32} {ff : Nat → Nat → Int32} {old sz len : Nat} {tx : Nat → Int32} {hsn : Int32} {WC : va_W} (hX : XS G fe f sf ff old sz len tx hsn WC) (hR : PR B f sf ff old sz len tx hsn) (hB : B < 700000000) (hd : rg f 49 40) (d : Nat) (h1 : 1 ≤ d) (h2 : d ≤ 5) (h3 : ¬ d ≤ nn f 49) (z9 : Int32) : Met l yL_call wsL_call ({ frames := 7, cells := 1, slots := 6, locals := 103 }) (PK lo [.ref fe, .int (nI 5), .int (nI d), .int z9] G (fun H => va_P G.1 vwCl WC H ∧ va_D (AL lo) WC)) (MV (some (.int (-13))) (fun _ => True) noA) 1 6 noA := by
  refine ofBKW (cc := cL_call) (maxL := 5) (ret := some .int) (by decide) rfl (Nat.le_of_ble_eq_true rfl) ?_
  intro p e s m below meth c hx hb hr hlocks hml hown hin hts hE hJ0 hI htab ls hl
  replace hown : s.vm.findClass RL = some m.cls := hown
  have hl : lv_has ls 5 [(0, .ref fe), (1, .int (nI 5)), (2, .int (nI d)), (3, .int z9)] := hl
  obtain ⟨hP, hD0⟩ := hI
  have hRv := xs_recv hE.1 hX hP
  obtain ⟨an, tn, sn, v0, v1, w, tf, tv0, tv1, tw, sv0, sv1, sw, ha, sv, ad, aa, vv0, vv1, ww, oa, co, rfl, hcp, hst, hcs, hcf, had⟩ := hX
  obtain ⟨ho, hos, hof, hold, hz, htx, hk01⟩ := hR
  have hs := okf_shp (by omega) ho
  have hsS := okf_shp (by omega) hos
  have hrg : ∀ k, k < 6 → Shp (ff k) := fun k hk => okf_shp (by omega) (hof k hk)
  have heok := eR_ok htx
  have hrt := rR_le (nn tx) len
  have hS : va_S noA s.heap s.heap [] := va_S.rf
  refine lv_iload_n hx hb dL_call_0 rfl (lv_at hl 1 rfl) ?_
  refine lv_if_ne (tgt := 13) hx hb dL_call_1 (by decide) (fun _ => ?_) (fun h => absurd h (by decide +kernel))
  refine lv_iload_n hx hb dL_call_13 rfl (lv_at hl 1 rfl) ?_
  refine lv_iconst (v := nI 1) hx hb dL_call_14 (by decide +kernel) ?_
  refine lv_icmp_ne (tgt := 26) hx hb dL_call_15 (by decide) (fun _ => ?_) (fun h => absurd h (by decide +kernel))
  refine lv_iload_n hx hb dL_call_26 rfl (lv_at hl 1 rfl) ?_
  refine lv_iconst (v := nI 2) hx hb dL_call_27 (by decide +kernel) ?_
  refine lv_icmp_ne (tgt := 38) hx hb dL_call_28 (by decide) (fun _ => ?_) (fun h => absurd h (by decide +kernel))
  refine lv_iload_n hx hb dL_call_38 rfl (lv_at hl 1 rfl) ?_
  refine lv_iconst (v := nI 3) hx hb dL_call_39 (by decide +kernel) ?_
  refine lv_icmp_ne (tgt := 50) hx hb dL_call_40 (by decide) (fun _ => ?_) (fun h => absurd h (by decide +kernel))
  refine lv_iload_n hx hb dL_call_50 rfl (lv_at hl 1 rfl) ?_
  refine lv_iconst (v := nI 4) hx hb dL_call_51 (by decide +kernel) ?_
  refine lv_icmp_ne (tgt := 63) hx hb dL_call_52 (by decide) (fun _ => ?_) (fun h => absurd h (by decide +kernel))
  refine lv_iload_n hx hb dL_call_63 rfl (lv_at hl 1 rfl) ?_
  refine lv_iconst (v := nI 5) hx hb dL_call_64 (by decide +kernel) ?_
  refine lv_icmp_ne (tgt := 76) hx hb dL_call_65 (by decide) (fun h => absurd h (by decide +kernel)) (fun _ => ?_)
  refine lv_aload_n hx hb dL_call_68 rfl (lv_at hl 0 rfl) ?_
  refine lv_iload_n hx hb dL_call_69 rfl (lv_at hl 2 rfl) ?_
  refine xcall (vx_runV (As := [.int (nI d)]) (rest := []) ⟨hx, hb, hml, hown, hts⟩ (c_X5_draw_e2 l hlt G fe (tn 0) (sn 0) ha oa hsn an f v0 v1 w hd d h1 h2 h3) (cwV 1 hts gL_call_X5_draw rfl rfl rfl (by decide +kernel) ⟨Nat.le_of_ble_eq_true rfl, Nat.le_of_ble_eq_true rfl⟩) (PJ.preV hE hJ0.jx hRv (P_pre (P_perm pm_FN hP))) rfl rfl hl.1 rfl (lv_room (Nat.le_of_ble_eq_true rfl)) dL_call_70 ⟨Nat.le_of_ble_eq_true rfl, Nat.le_of_ble_eq_true rfl⟩) hS (fun H locs xq ce hk hS hq hv hc => ?_)
  refine vx_catch hown [(⟨0, 272, 273, 75⟩ : ExceptionTableEntry), (⟨0, 272, 278, 77⟩ : ExceptionTableEntry)] (⟨0, 272, 283, 79⟩ : ExceptionTableEntry) [] (htab.trans rfl) (fun z hz => by
      simp only [List.mem_cons, List.not_mem_nil, or_false] at hz
      rcases hz with rfl | rfl
      · exact Or.inr ⟨by decide, "java/lang/IndexOutOfBoundsException", hts (.classLink RL 75 "java/lang/IndexOutOfBoundsException") (by decide +kernel), hJ0.jx.2.2.2.2.1.2.2.1⟩
      · exact Or.inr ⟨by decide, "java/lang/IllegalArgumentException", hts (.classLink RL 77 "java/lang/IllegalArgumentException") (by decide +kernel), hJ0.jx.2.2.2.2.1.2.2.2⟩) (by decide) (by decide) (hts (.classLink RL 79 "java/lang/IllegalStateException") (by decide +kernel)) (va_Nw.use rfl (hJ0.jx.2.2.2.1 "java/lang/IllegalStateException" (by decide))) hq hv hc ?_
  refine lv_astore (lv' := [(4, .ref xq), (0, .ref fe), (1, .int (nI 5)), (2, .int (nI d)), (3, .int z9)]) hx hb dL_call_283 hl (by decide) rfl (fun ls hl => ?_)
  refine lv_bipush (v := -13) hx hb dL_call_285 (by decide +kernel) ?_
  exact W.iret hx hb hr (fun t ht hW => ⟨rfl, trivial, hS.F ht⟩) hS.2.2 dL_call_287

set_option maxHeartbeats 4000000 in
set_option maxRecDepth 100000 in
theorem C0_undo_e1 (l : Launch) (hlt : l.stackTraces = false) (G : eG) {lo : Nat} {fe B : Nat} {f sf : Nat → Int32} {ff : Nat → Nat → Int32} {old sz len : Nat} {tx : Nat → Int32} {hsn : Int32} {WC : va_W} (hX : XS G fe f sf ff old sz len tx hsn WC) (hR : PR B f sf ff old sz len tx hsn) (hB : B < 700000000) (hz0 : sz = 0) (z8 : Int32) (z9 : Int32) : Met l yL_call wsL_call ({ frames := 7, cells := 1, slots := 6, locals := 102 }) (PK lo [.ref fe, .int (nI 11), .int z8, .int z9] G (fun H => va_P G.1 vwCl WC H ∧ va_D (AL lo) WC)) (MV (some (.int (-13))) (fun _ => True) noA) 1 6 noA := by
  refine ofBKW (cc := cL_call) (maxL := 5) (ret := some .int) (by decide) rfl (Nat.le_of_ble_eq_true rfl) ?_
  intro p e s m below meth c hx hb hr hlocks hml hown hin hts hE hJ0 hI htab ls hl
  replace hown : s.vm.findClass RL = some m.cls := hown
  have hl : lv_has ls 5 [(0, .ref fe), (1, .int (nI 11)), (2, .int z8), (3, .int z9)] := hl
  obtain ⟨hP, hD0⟩ := hI
  have hRv := xs_recv hE.1 hX hP
  obtain ⟨an, tn, sn, v0, v1, w, tf, tv0, tv1, tw, sv0, sv1, sw, ha, sv, ad, aa, vv0, vv1, ww, oa, co, rfl, hcp, hst, hcs, hcf, had⟩ := hX
  obtain ⟨ho, hos, hof, hold, hz, htx, hk01⟩ := hR
  have hs := okf_shp (by omega) ho
  have hsS := okf_shp (by omega) hos
  have hrg : ∀ k, k < 6 → Shp (ff k) := fun k hk => okf_shp (by omega) (hof k hk)
  have heok := eR_ok htx
  have hrt := rR_le (nn tx) len
  have hS : va_S noA s.heap s.heap [] := va_S.rf
  refine lv_iload_n hx hb dL_call_0 rfl (lv_at hl 1 rfl) ?_
  refine lv_if_ne (tgt := 13) hx hb dL_call_1 (by decide) (fun _ => ?_) (fun h => absurd h (by decide +kernel))
  refine lv_iload_n hx hb dL_call_13 rfl (lv_at hl 1 rfl) ?_
  refine lv_iconst (v := nI 1) hx hb dL_call_14 (by decide +kernel) ?_
  refine lv_icmp_ne (tgt := 26) hx hb dL_call_15 (by decide) (fun _ => ?_) (fun h => absurd h (by decide +kernel))
  refine lv_iload_n hx hb dL_call_26 rfl (lv_at hl 1 rfl) ?_
  refine lv_iconst (v := nI 2) hx hb dL_call_27 (by decide +kernel) ?_
  refine lv_icmp_ne (tgt := 38) hx hb dL_call_28 (by decide) (fun _ => ?_) (fun h => absurd h (by decide +kernel))
  refine lv_iload_n hx hb dL_call_38 rfl (lv_at hl 1 rfl) ?_
  refine lv_iconst (v := nI 3) hx hb dL_call_39 (by decide +kernel) ?_
  refine lv_icmp_ne (tgt := 50) hx hb dL_call_40 (by decide) (fun _ => ?_) (fun h => absurd h (by decide +kernel))
  refine lv_iload_n hx hb dL_call_50 rfl (lv_at hl 1 rfl) ?_
  refine lv_iconst (v := nI 4) hx hb dL_call_51 (by decide +kernel) ?_
  refine lv_icmp_ne (tgt := 63) hx hb dL_call_52 (by decide) (fun _ => ?_) (fun h => absurd h (by decide +kernel))
  refine lv_iload_n hx hb dL_call_63 rfl (lv_at hl 1 rfl) ?_
  refine lv_iconst (v := nI 5) hx hb dL_call_64 (by decide +kernel) ?_
  refine lv_icmp_ne (tgt := 76) hx hb dL_call_65 (by decide) (fun _ => ?_) (fun h => absurd h (by decide +kernel))
  refine lv_iload_n hx hb dL_call_76 rfl (lv_at hl 1 rfl) ?_
  refine lv_bipush (v := nI 6) hx hb dL_call_77 (by decide +kernel) ?_
  refine lv_icmp_ne (tgt := 91) hx hb dL_call_79 (by decide) (fun _ => ?_) (fun h => absurd h (by decide +kernel))
  refine lv_iload_n hx hb dL_call_91 rfl (lv_at hl 1 rfl) ?_
  refine lv_bipush (v := nI 7) hx hb dL_call_92 (by decide +kernel) ?_
  refine lv_icmp_ne (tgt := 106) hx hb dL_call_94 (by decide) (fun _ => ?_) (fun h => absurd h (by decide +kernel))
  refine lv_iload_n hx hb dL_call_106 rfl (lv_at hl 1 rfl) ?_
  refine lv_bipush (v := nI 8) hx hb dL_call_107 (by decide +kernel) ?_
  refine lv_icmp_ne (tgt := 120) hx hb dL_call_109 (by decide) (fun _ => ?_) (fun h => absurd h (by decide +kernel))
  refine lv_iload_n hx hb dL_call_120 rfl (lv_at hl 1 rfl) ?_
  refine lv_bipush (v := nI 9) hx hb dL_call_121 (by decide +kernel) ?_
  refine lv_icmp_ne (tgt := 133) hx hb dL_call_123 (by decide) (fun _ => ?_) (fun h => absurd h (by decide +kernel))
  refine lv_iload_n hx hb dL_call_133 rfl (lv_at hl 1 rfl) ?_
  refine lv_bipush (v := nI 10) hx hb dL_call_134 (by decide +kernel) ?_
  refine lv_icmp_ne (tgt := 146) hx hb dL_call_136 (by decide) (fun _ => ?_) (fun h => absurd h (by decide +kernel))
  refine lv_iload_n hx hb dL_call_146 rfl (lv_at hl 1 rfl) ?_
  refine lv_bipush (v := nI 11) hx hb dL_call_147 (by decide +kernel) ?_
  refine lv_icmp_ne (tgt := 159) hx hb dL_call_149 (by decide) (fun h => absurd h (by decide +kernel)) (fun _ => ?_)
  refine lv_aload_n hx hb dL_call_152 rfl (lv_at hl 0 rfl) ?_
  refine xcall (vx_runV (As := []) (rest := []) ⟨hx, hb, hml, hown, hts⟩ (c_X5_undo_e1 l hlt G fe (tn 0) (sn 0) ha oa hsn an sv old sz ad hz0) (cwV 0 hts gL_call_X5_undo rfl rfl rfl (by decide +kernel) ⟨Nat.le_of_ble_eq_true rfl, Nat.le_of_ble_eq_true rfl⟩) (PJ.preV hE hJ0.jx hRv (P_pre (P_perm pm_FH hP))) rfl rfl hl.1 rfl (lv_room (Nat.le_of_ble_eq_true rfl)) dL_call_153 ⟨Nat.le_of_ble_eq_true rfl, Nat.le_of_ble_eq_true rfl⟩) hS (fun H locs xq ce hk hS hq hv hc => ?_)
  refine vx_catch hown [(⟨0, 272, 273, 75⟩ : ExceptionTableEntry), (⟨0, 272, 278, 77⟩ : ExceptionTableEntry)] (⟨0, 272, 283, 79⟩ : ExceptionTableEntry) [] (htab.trans rfl) (fun z hz => by
      simp only [List.mem_cons, List.not_mem_nil, or_false] at hz
      rcases hz with rfl | rfl
      · exact Or.inr ⟨by decide, "java/lang/IndexOutOfBoundsException", hts (.classLink RL 75 "java/lang/IndexOutOfBoundsException") (by decide +kernel), hJ0.jx.2.2.2.2.1.2.2.1⟩
      · exact Or.inr ⟨by decide, "java/lang/IllegalArgumentException", hts (.classLink RL 77 "java/lang/IllegalArgumentException") (by decide +kernel), hJ0.jx.2.2.2.2.1.2.2.2⟩) (by decide) (by decide) (hts (.classLink RL 79 "java/lang/IllegalStateException") (by decide +kernel)) (va_Nw.use rfl (hJ0.jx.2.2.2.1 "java/lang/IllegalStateException" (by decide))) hq hv hc ?_
  refine lv_astore (lv' := [(4, .ref xq), (0, .ref fe), (1, .int (nI 11)), (2, .int z8), (3, .int z9)]) hx hb dL_call_283 hl (by decide) rfl (fun ls hl => ?_)
  refine lv_bipush (v := -13) hx hb dL_call_285 (by decide +kernel) ?_
  exact W.iret hx hb hr (fun t ht hW => ⟨rfl, trivial, hS.F ht⟩) hS.2.2 dL_call_287
theorem CC_undo_e1 (l : Launch) (hlt : l.stackTraces = false) (G : eG) {lo : Nat} {fe B : Nat} {f sf : Nat → Int32} {ff : Nat → Nat → Int32} {old sz len : Nat} {tx : Nat → Int32} {hsn : Int32} {WC : va_W} (hX : XS G fe f sf ff old sz len tx hsn WC) (hR : PR B f sf ff old sz len tx hsn) (hB : B < 700000000) (hz0 : sz = 0) (z8 : Int32) (z9 : Int32) : Met l yL_call wsL_call ({ frames := 7, cells := 1, slots := 6, locals := 102 }) (PK lo [.ref fe, .int (nI 11), .int z8, .int z9] G (fun H => va_P G.1 vwCl WC H ∧ va_D (AL lo) WC)) (MV (some (.int (-13))) (fun H => ∃ W', XS G fe f sf ff old sz len tx hsn W' ∧ va_P G.1 vwCl W' H ∧ va_D (inW WC) W') (inW WC)) 1 6 (inW WC) :=
  lift0 (X := fun W' => XS G fe f sf ff old sz len tx hsn W') (C0_undo_e1 l hlt G hX hR hB hz0 z8 z9) hX

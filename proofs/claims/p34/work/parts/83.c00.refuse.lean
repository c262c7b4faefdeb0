set_option maxHeartbeats 8000000 in
set_option maxRecDepth 100000 in
theorem K_refusesAny_0 (l : Launch) (hlt : l.stackTraces = false) (G : eG) {lo : Nat} {fe B : Nat} {f sf : Nat → Int32} {ff : Nat → Nat → Int32} {old sz : Nat} {tx : Nat → Int32} {hsn : Int32} {WC : va_W} (hX : XS G fe f sf ff old sz 0 tx hsn WC) (hR : PR B f sf ff old sz 0 tx hsn) (hB : B < 700000000) : Met l yL_refusesAny wsL_refusesAny ({ frames := 8, cells := 24, slots := 144, locals := 130 }) (PK lo [.ref fe, .int (nI 0)] G (fun H => va_P G.1 vwCl WC H ∧ va_D (AL lo) WC)) (MV (some (.int (nI 1))) (fun H => ∃ W', XS G fe f sf ff old sz 0 tx hsn W' ∧ va_P G.1 vwCl W' H ∧ va_D (inW WC) W') (inW WC)) 24 144 (inW WC) := by
  refine ofBK (cc := cL_refusesAny) (maxL := 3) (ret := some .boolean) (by decide) rfl (Nat.le_of_ble_eq_true rfl) ?_
  intro p e s m below meth c hx hb hr hlocks hml hown hin hts hE hJ0 hI ls hl
  replace hown : s.vm.findClass RL = some m.cls := hown
  have hl : lv_has ls 3 [(0, .ref fe), (1, .int (nI 0))] := hl
  obtain ⟨hP, hD0⟩ := hI
  have hAl : ∀ q, inW WC q → lo ≤ q := fun q h => inW_D hD0 q h
  have hD : va_D (inW WC) (WC ++ []) := by rw [List.append_nil]; exact D_self hD0
  obtain ⟨A, hAe⟩ : ∃ A, A = inW WC := ⟨_, rfl⟩
  rw [← hAe] at hD hAl
  have hS : va_S A s.heap s.heap [] := va_S.rf
  obtain ⟨H, hHe⟩ : ∃ H, H = s.heap := ⟨_, rfl⟩
  obtain ⟨locs, hle⟩ : ∃ q : List Loc, q = [] := ⟨_, rfl⟩
  rw [← hle] at hS ⊢
  have hP : va_P G.1 vwCl (WC ++ []) H := by rw [hHe, List.append_nil]; exact hP
  replace hS : va_S A s.heap H locs := by rw [hHe]; exact hS
  have hJ : JB lo s H := hJ0.S hAl hS
  refine tH hHe ?_
  refine lv_iload_n hx hb dL_refusesAny_0 rfl (lv_at hl 1 rfl) ?_
  refine lv_if_ne (tgt := 8) hx hb dL_refusesAny_1 (by decide) (fun h => absurd h (by decide +kernel)) (fun _ => ?_)
  refine lv_iconst (v := -1) hx hb dL_refusesAny_4 (by decide +kernel) ?_
  refine lv_goto (tgt := 9) hx hb dL_refusesAny_5 (by decide) ?_
  refine lv_istore_n (lv' := [(2, .int (-1)), (0, .ref fe), (1, .int (nI 0))]) hx hb dL_refusesAny_9 rfl hl (by decide) rfl (fun ls hl => ?_)
  refine lv_aload_n hx hb dL_refusesAny_10 rfl (lv_at hl 1 rfl) ?_
  refine lv_iconst (v := nI 0) hx hb dL_refusesAny_11 (by decide +kernel) ?_
  refine lv_iload_n hx hb dL_refusesAny_12 rfl (lv_at hl 0 rfl) ?_
  refine lv_bipush (v := nI 99) hx hb dL_refusesAny_13 (by decide +kernel) ?_
  refine cxc (st1 := [.int (-11)]) (vx_runSW (As := [.ref fe, .int (nI 0), .int (-1), .int (nI 99)]) (rest := []) ⟨hx, hb, hml, hown, hts⟩ (CC_arrive_e1 l hlt G hX hR hB (-1) (nI 99) (by decide +kernel)) (vx_cwSW 4 hts gL_refusesAny_L_call rfl rfl rfl (by decide +kernel) ⟨Nat.le_of_ble_eq_true rfl, Nat.le_of_ble_eq_true rfl⟩) (PK.preS hE hJ ⟨P_pre hP, D_al hAl (D_pre hD)⟩) rfl rfl hl.1 rfl (lv_room (Nat.le_of_ble_eq_true rfl)) dL_refusesAny_15 ⟨Nat.le_of_ble_eq_true rfl, Nat.le_of_ble_eq_true rfl⟩) hP hD hS hJ0 hAl rfl (fun WC H locs hX hP hD hS hJ => ?_)
  refine lv_bipush (v := -11) hx hb dL_refusesAny_18 (by decide +kernel) ?_
  refine lv_icmp_ne (tgt := 270) hx hb dL_refusesAny_20 (by decide) (fun h => absurd h (by decide +kernel)) (fun _ => ?_)
  refine lv_aload_n hx hb dL_refusesAny_23 rfl (lv_at hl 1 rfl) ?_
  refine lv_iconst (v := nI 0) hx hb dL_refusesAny_24 (by decide +kernel) ?_
  refine lv_iconst (v := nI 0) hx hb dL_refusesAny_25 (by decide +kernel) ?_
  refine lv_iload_n hx hb dL_refusesAny_26 rfl (lv_at hl 2 rfl) ?_
  refine lv_if_ne (tgt := 34) hx hb dL_refusesAny_27 (by decide) (fun h => absurd h (by decide +kernel)) (fun _ => ?_)
  refine lv_iconst (v := nI 0) hx hb dL_refusesAny_30 (by decide +kernel) ?_
  refine lv_goto (tgt := 36) hx hb dL_refusesAny_31 (by decide) ?_
  refine cxc (st1 := [.int (-12)]) (vx_runSW (As := [.ref fe, .int (nI 0), .int (nI 0), .int (nI 0)]) (rest := []) ⟨hx, hb, hml, hown, hts⟩ (CC_arrive_e2 l hlt G hX hR hB (nI 0) (nI 0) (by decide +kernel) (by decide +kernel)) (vx_cwSW 4 hts gL_refusesAny_L_call rfl rfl rfl (by decide +kernel) ⟨Nat.le_of_ble_eq_true rfl, Nat.le_of_ble_eq_true rfl⟩) (PK.preS hE hJ ⟨P_pre hP, D_al hAl (D_pre hD)⟩) rfl rfl hl.1 rfl (lv_room (Nat.le_of_ble_eq_true rfl)) dL_refusesAny_36 ⟨Nat.le_of_ble_eq_true rfl, Nat.le_of_ble_eq_true rfl⟩) hP hD hS hJ0 hAl rfl (fun WC H locs hX hP hD hS hJ => ?_)
  refine lv_bipush (v := -12) hx hb dL_refusesAny_39 (by decide +kernel) ?_
  refine lv_icmp_ne (tgt := 270) hx hb dL_refusesAny_41 (by decide) (fun h => absurd h (by decide +kernel)) (fun _ => ?_)
  refine lv_aload_n hx hb dL_refusesAny_44 rfl (lv_at hl 1 rfl) ?_
  refine lv_iconst (v := nI 1) hx hb dL_refusesAny_45 (by decide +kernel) ?_
  refine lv_iload_n hx hb dL_refusesAny_46 rfl (lv_at hl 0 rfl) ?_
  refine lv_iconst (v := nI 0) hx hb dL_refusesAny_47 (by decide +kernel) ?_
  refine cxc (st1 := [.int (-11)]) (vx_runSW (As := [.ref fe, .int (nI 1), .int (-1), .int (nI 0)]) (rest := []) ⟨hx, hb, hml, hown, hts⟩ (CC_load_e1 l hlt G hX hR hB (-1) (by decide +kernel) (nI 0)) (vx_cwSW 4 hts gL_refusesAny_L_call rfl rfl rfl (by decide +kernel) ⟨Nat.le_of_ble_eq_true rfl, Nat.le_of_ble_eq_true rfl⟩) (PK.preS hE hJ ⟨P_pre hP, D_al hAl (D_pre hD)⟩) rfl rfl hl.1 rfl (lv_room (Nat.le_of_ble_eq_true rfl)) dL_refusesAny_48 ⟨Nat.le_of_ble_eq_true rfl, Nat.le_of_ble_eq_true rfl⟩) hP hD hS hJ0 hAl rfl (fun WC H locs hX hP hD hS hJ => ?_)
  refine lv_bipush (v := -11) hx hb dL_refusesAny_51 (by decide +kernel) ?_
  refine lv_icmp_ne (tgt := 270) hx hb dL_refusesAny_53 (by decide) (fun h => absurd h (by decide +kernel)) (fun _ => ?_)
  refine lv_aload_n hx hb dL_refusesAny_56 rfl (lv_at hl 1 rfl) ?_
  refine lv_iconst (v := nI 4) hx hb dL_refusesAny_57 (by decide +kernel) ?_
  refine lv_iload_n hx hb dL_refusesAny_58 rfl (lv_at hl 2 rfl) ?_
  refine lv_if_ne (tgt := 66) hx hb dL_refusesAny_59 (by decide) (fun h => absurd h (by decide +kernel)) (fun _ => ?_)
  refine lv_iconst (v := nI 0) hx hb dL_refusesAny_62 (by decide +kernel) ?_
  refine lv_goto (tgt := 68) hx hb dL_refusesAny_63 (by decide) ?_
  refine lv_iconst (v := nI 0) hx hb dL_refusesAny_68 (by decide +kernel) ?_
  refine cxc (st1 := [.int (-12)]) (vx_runSW (As := [.ref fe, .int (nI 4), .int (nI 0), .int (nI 0)]) (rest := []) ⟨hx, hb, hml, hown, hts⟩ (CC_pass_e1 l hlt G hX hR hB (nI 0) (by decide +kernel) (nI 0)) (vx_cwSW 4 hts gL_refusesAny_L_call rfl rfl rfl (by decide +kernel) ⟨Nat.le_of_ble_eq_true rfl, Nat.le_of_ble_eq_true rfl⟩) (PK.preS hE hJ ⟨P_pre hP, D_al hAl (D_pre hD)⟩) rfl rfl hl.1 rfl (lv_room (Nat.le_of_ble_eq_true rfl)) dL_refusesAny_69 ⟨Nat.le_of_ble_eq_true rfl, Nat.le_of_ble_eq_true rfl⟩) hP hD hS hJ0 hAl rfl (fun WC H locs hX hP hD hS hJ => ?_)
  refine lv_bipush (v := -12) hx hb dL_refusesAny_72 (by decide +kernel) ?_
  refine lv_icmp_ne (tgt := 270) hx hb dL_refusesAny_74 (by decide) (fun h => absurd h (by decide +kernel)) (fun _ => ?_)
  refine lv_aload_n hx hb dL_refusesAny_77 rfl (lv_at hl 1 rfl) ?_
  refine lv_iconst (v := nI 5) hx hb dL_refusesAny_78 (by decide +kernel) ?_
  refine lv_iload_n hx hb dL_refusesAny_79 rfl (lv_at hl 2 rfl) ?_
  refine lv_if_ne (tgt := 87) hx hb dL_refusesAny_80 (by decide) (fun h => absurd h (by decide +kernel)) (fun _ => ?_)
  refine lv_iconst (v := nI 0) hx hb dL_refusesAny_83 (by decide +kernel) ?_
  refine lv_goto (tgt := 89) hx hb dL_refusesAny_84 (by decide) ?_
  refine lv_iconst (v := nI 0) hx hb dL_refusesAny_89 (by decide +kernel) ?_
  refine cxc (st1 := [.int (-12)]) (vx_runSW (As := [.ref fe, .int (nI 5), .int (nI 0), .int (nI 0)]) (rest := []) ⟨hx, hb, hml, hown, hts⟩ (CC_draw_e1 l hlt G hX hR hB (nI 0) (by decide +kernel) (nI 0)) (vx_cwSW 4 hts gL_refusesAny_L_call rfl rfl rfl (by decide +kernel) ⟨Nat.le_of_ble_eq_true rfl, Nat.le_of_ble_eq_true rfl⟩) (PK.preS hE hJ ⟨P_pre hP, D_al hAl (D_pre hD)⟩) rfl rfl hl.1 rfl (lv_room (Nat.le_of_ble_eq_true rfl)) dL_refusesAny_90 ⟨Nat.le_of_ble_eq_true rfl, Nat.le_of_ble_eq_true rfl⟩) hP hD hS hJ0 hAl rfl (fun WC H locs hX hP hD hS hJ => ?_)
  refine lv_bipush (v := -12) hx hb dL_refusesAny_93 (by decide +kernel) ?_
  refine lv_icmp_ne (tgt := 270) hx hb dL_refusesAny_95 (by decide) (fun h => absurd h (by decide +kernel)) (fun _ => ?_)
  refine lv_aload_n hx hb dL_refusesAny_98 rfl (lv_at hl 1 rfl) ?_
  refine lv_bipush (v := nI 6) hx hb dL_refusesAny_99 (by decide +kernel) ?_
  refine lv_iload_n hx hb dL_refusesAny_101 rfl (lv_at hl 2 rfl) ?_
  refine lv_if_ne (tgt := 109) hx hb dL_refusesAny_102 (by decide) (fun h => absurd h (by decide +kernel)) (fun _ => ?_)
  refine lv_iconst (v := -1) hx hb dL_refusesAny_105 (by decide +kernel) ?_
  refine lv_goto (tgt := 111) hx hb dL_refusesAny_106 (by decide) ?_
  refine lv_bipush (v := nI 99) hx hb dL_refusesAny_111 (by decide +kernel) ?_
  refine cxc (st1 := [.int (-11)]) (vx_runSW (As := [.ref fe, .int (nI 6), .int (-1), .int (nI 99)]) (rest := []) ⟨hx, hb, hml, hown, hts⟩ (CC_current_e1 l hlt G hX hR hB (-1) (nI 99) (by decide +kernel)) (vx_cwSW 4 hts gL_refusesAny_L_call rfl rfl rfl (by decide +kernel) ⟨Nat.le_of_ble_eq_true rfl, Nat.le_of_ble_eq_true rfl⟩) (PK.preS hE hJ ⟨P_pre hP, D_al hAl (D_pre hD)⟩) rfl rfl hl.1 rfl (lv_room (Nat.le_of_ble_eq_true rfl)) dL_refusesAny_113 ⟨Nat.le_of_ble_eq_true rfl, Nat.le_of_ble_eq_true rfl⟩) hP hD hS hJ0 hAl rfl (fun WC H locs hX hP hD hS hJ => ?_)
  refine lv_bipush (v := -11) hx hb dL_refusesAny_116 (by decide +kernel) ?_
  refine lv_icmp_ne (tgt := 270) hx hb dL_refusesAny_118 (by decide) (fun h => absurd h (by decide +kernel)) (fun _ => ?_)
  refine lv_aload_n hx hb dL_refusesAny_121 rfl (lv_at hl 1 rfl) ?_
  refine lv_bipush (v := nI 6) hx hb dL_refusesAny_122 (by decide +kernel) ?_
  refine lv_iconst (v := nI 0) hx hb dL_refusesAny_124 (by decide +kernel) ?_
  refine lv_iload_n hx hb dL_refusesAny_125 rfl (lv_at hl 2 rfl) ?_
  refine lv_if_ne (tgt := 133) hx hb dL_refusesAny_126 (by decide) (fun h => absurd h (by decide +kernel)) (fun _ => ?_)
  refine lv_iconst (v := -1) hx hb dL_refusesAny_129 (by decide +kernel) ?_
  refine lv_goto (tgt := 135) hx hb dL_refusesAny_130 (by decide) ?_
  refine cxc (st1 := [.int (-12)]) (vx_runSW (As := [.ref fe, .int (nI 6), .int (nI 0), .int (-1)]) (rest := []) ⟨hx, hb, hml, hown, hts⟩ (CC_current_e2 l hlt G hX hR hB (nI 0) (-1) (by decide +kernel) (by decide +kernel)) (vx_cwSW 4 hts gL_refusesAny_L_call rfl rfl rfl (by decide +kernel) ⟨Nat.le_of_ble_eq_true rfl, Nat.le_of_ble_eq_true rfl⟩) (PK.preS hE hJ ⟨P_pre hP, D_al hAl (D_pre hD)⟩) rfl rfl hl.1 rfl (lv_room (Nat.le_of_ble_eq_true rfl)) dL_refusesAny_135 ⟨Nat.le_of_ble_eq_true rfl, Nat.le_of_ble_eq_true rfl⟩) hP hD hS hJ0 hAl rfl (fun WC H locs hX hP hD hS hJ => ?_)
  refine lv_bipush (v := -12) hx hb dL_refusesAny_138 (by decide +kernel) ?_
  refine lv_icmp_ne (tgt := 270) hx hb dL_refusesAny_140 (by decide) (fun h => absurd h (by decide +kernel)) (fun _ => ?_)
  refine lv_aload_n hx hb dL_refusesAny_143 rfl (lv_at hl 1 rfl) ?_
  refine lv_bipush (v := nI 7) hx hb dL_refusesAny_144 (by decide +kernel) ?_
  refine lv_iload_n hx hb dL_refusesAny_146 rfl (lv_at hl 2 rfl) ?_
  refine lv_if_ne (tgt := 154) hx hb dL_refusesAny_147 (by decide) (fun h => absurd h (by decide +kernel)) (fun _ => ?_)
  refine lv_iconst (v := -1) hx hb dL_refusesAny_150 (by decide +kernel) ?_
  refine lv_goto (tgt := 155) hx hb dL_refusesAny_151 (by decide) ?_
  refine lv_sipush (v := nI 9999) hx hb dL_refusesAny_155 (by decide +kernel) ?_
  refine cxc (st1 := [.int (-11)]) (vx_runSW (As := [.ref fe, .int (nI 7), .int (-1), .int (nI 9999)]) (rest := []) ⟨hx, hb, hml, hown, hts⟩ (CC_set_e1 l hlt G hX hR hB (-1) (nI 9999) (by decide +kernel)) (vx_cwSW 4 hts gL_refusesAny_L_call rfl rfl rfl (by decide +kernel) ⟨Nat.le_of_ble_eq_true rfl, Nat.le_of_ble_eq_true rfl⟩) (PK.preS hE hJ ⟨P_pre hP, D_al hAl (D_pre hD)⟩) rfl rfl hl.1 rfl (lv_room (Nat.le_of_ble_eq_true rfl)) dL_refusesAny_158 ⟨Nat.le_of_ble_eq_true rfl, Nat.le_of_ble_eq_true rfl⟩) hP hD hS hJ0 hAl rfl (fun WC H locs hX hP hD hS hJ => ?_)
  refine lv_bipush (v := -11) hx hb dL_refusesAny_161 (by decide +kernel) ?_
  refine lv_icmp_ne (tgt := 270) hx hb dL_refusesAny_163 (by decide) (fun h => absurd h (by decide +kernel)) (fun _ => ?_)
  refine lv_aload_n hx hb dL_refusesAny_166 rfl (lv_at hl 1 rfl) ?_
  refine lv_bipush (v := nI 7) hx hb dL_refusesAny_167 (by decide +kernel) ?_
  refine lv_iconst (v := nI 0) hx hb dL_refusesAny_169 (by decide +kernel) ?_
  refine lv_iload_n hx hb dL_refusesAny_170 rfl (lv_at hl 2 rfl) ?_
  refine lv_if_ne (tgt := 179) hx hb dL_refusesAny_171 (by decide) (fun h => absurd h (by decide +kernel)) (fun _ => ?_)
  refine lv_bipush (v := nI 49) hx hb dL_refusesAny_174 (by decide +kernel) ?_
  refine lv_goto (tgt := 182) hx hb dL_refusesAny_176 (by decide) ?_
  refine cxc (st1 := [.int (-12)]) (vx_runSW (As := [.ref fe, .int (nI 7), .int (nI 0), .int (nI 49)]) (rest := []) ⟨hx, hb, hml, hown, hts⟩ (CC_set_e2 l hlt G hX hR hB 0 (nI 49) (by decide +kernel) (by decide +kernel)) (vx_cwSW 4 hts gL_refusesAny_L_call rfl rfl rfl (by decide +kernel) ⟨Nat.le_of_ble_eq_true rfl, Nat.le_of_ble_eq_true rfl⟩) (PK.preS hE hJ ⟨P_pre hP, D_al hAl (D_pre hD)⟩) rfl rfl hl.1 rfl (lv_room (Nat.le_of_ble_eq_true rfl)) dL_refusesAny_182 ⟨Nat.le_of_ble_eq_true rfl, Nat.le_of_ble_eq_true rfl⟩) hP hD hS hJ0 hAl rfl (fun WC H locs hX hP hD hS hJ => ?_)
  refine lv_bipush (v := -12) hx hb dL_refusesAny_185 (by decide +kernel) ?_
  refine lv_icmp_ne (tgt := 270) hx hb dL_refusesAny_187 (by decide) (fun h => absurd h (by decide +kernel)) (fun _ => ?_)
  refine lv_aload_n hx hb dL_refusesAny_190 rfl (lv_at hl 1 rfl) ?_
  refine lv_bipush (v := nI 7) hx hb dL_refusesAny_191 (by decide +kernel) ?_
  refine lv_iconst (v := nI 1) hx hb dL_refusesAny_193 (by decide +kernel) ?_
  refine lv_iload_n hx hb dL_refusesAny_194 rfl (lv_at hl 2 rfl) ?_
  refine lv_if_ne (tgt := 202) hx hb dL_refusesAny_195 (by decide) (fun h => absurd h (by decide +kernel)) (fun _ => ?_)
  refine lv_iconst (v := -1) hx hb dL_refusesAny_198 (by decide +kernel) ?_
  refine lv_goto (tgt := 204) hx hb dL_refusesAny_199 (by decide) ?_
  refine cxc (st1 := [.int (-12)]) (vx_runSW (As := [.ref fe, .int (nI 7), .int (nI 1), .int (-1)]) (rest := []) ⟨hx, hb, hml, hown, hts⟩ (CC_set_e2 l hlt G hX hR hB 1 (-1) (by decide +kernel) (by decide +kernel)) (vx_cwSW 4 hts gL_refusesAny_L_call rfl rfl rfl (by decide +kernel) ⟨Nat.le_of_ble_eq_true rfl, Nat.le_of_ble_eq_true rfl⟩) (PK.preS hE hJ ⟨P_pre hP, D_al hAl (D_pre hD)⟩) rfl rfl hl.1 rfl (lv_room (Nat.le_of_ble_eq_true rfl)) dL_refusesAny_204 ⟨Nat.le_of_ble_eq_true rfl, Nat.le_of_ble_eq_true rfl⟩) hP hD hS hJ0 hAl rfl (fun WC H locs hX hP hD hS hJ => ?_)
  refine lv_bipush (v := -12) hx hb dL_refusesAny_207 (by decide +kernel) ?_
  refine lv_icmp_ne (tgt := 270) hx hb dL_refusesAny_209 (by decide) (fun h => absurd h (by decide +kernel)) (fun _ => ?_)
  refine lv_aload_n hx hb dL_refusesAny_212 rfl (lv_at hl 1 rfl) ?_
  refine lv_bipush (v := nI 7) hx hb dL_refusesAny_213 (by decide +kernel) ?_
  refine lv_iconst (v := nI 2) hx hb dL_refusesAny_215 (by decide +kernel) ?_
  refine lv_iload_n hx hb dL_refusesAny_216 rfl (lv_at hl 2 rfl) ?_
  refine lv_if_ne (tgt := 224) hx hb dL_refusesAny_217 (by decide) (fun h => absurd h (by decide +kernel)) (fun _ => ?_)
  refine lv_iconst (v := nI 0) hx hb dL_refusesAny_220 (by decide +kernel) ?_
  refine lv_goto (tgt := 226) hx hb dL_refusesAny_221 (by decide) ?_
  refine cxc (st1 := [.int (-12)]) (vx_runSW (As := [.ref fe, .int (nI 7), .int (nI 2), .int (nI 0)]) (rest := []) ⟨hx, hb, hml, hown, hts⟩ (CC_set_e2 l hlt G hX hR hB 2 (nI 0) (by decide +kernel) (by decide +kernel)) (vx_cwSW 4 hts gL_refusesAny_L_call rfl rfl rfl (by decide +kernel) ⟨Nat.le_of_ble_eq_true rfl, Nat.le_of_ble_eq_true rfl⟩) (PK.preS hE hJ ⟨P_pre hP, D_al hAl (D_pre hD)⟩) rfl rfl hl.1 rfl (lv_room (Nat.le_of_ble_eq_true rfl)) dL_refusesAny_226 ⟨Nat.le_of_ble_eq_true rfl, Nat.le_of_ble_eq_true rfl⟩) hP hD hS hJ0 hAl rfl (fun WC H locs hX hP hD hS hJ => ?_)
  refine lv_bipush (v := -12) hx hb dL_refusesAny_229 (by decide +kernel) ?_
  refine lv_icmp_ne (tgt := 270) hx hb dL_refusesAny_231 (by decide) (fun h => absurd h (by decide +kernel)) (fun _ => ?_)
  refine lv_aload_n hx hb dL_refusesAny_234 rfl (lv_at hl 1 rfl) ?_
  refine lv_bipush (v := nI 8) hx hb dL_refusesAny_235 (by decide +kernel) ?_
  refine lv_iload_n hx hb dL_refusesAny_237 rfl (lv_at hl 2 rfl) ?_
  refine lv_if_ne (tgt := 246) hx hb dL_refusesAny_238 (by decide) (fun h => absurd h (by decide +kernel)) (fun _ => ?_)
  refine lv_bipush (v := nI 32) hx hb dL_refusesAny_241 (by decide +kernel) ?_
  refine lv_goto (tgt := 248) hx hb dL_refusesAny_243 (by decide) ?_
  refine lv_iconst (v := nI 0) hx hb dL_refusesAny_248 (by decide +kernel) ?_
  refine cxc (st1 := [.int (-12)]) (vx_runSW (As := [.ref fe, .int (nI 8), .int (nI 32), .int (nI 0)]) (rest := []) ⟨hx, hb, hml, hown, hts⟩ (CC_append_e1 l hlt G hX hR hB (nI 32) (by decide +kernel) (nI 0)) (vx_cwSW 4 hts gL_refusesAny_L_call rfl rfl rfl (by decide +kernel) ⟨Nat.le_of_ble_eq_true rfl, Nat.le_of_ble_eq_true rfl⟩) (PK.preS hE hJ ⟨P_pre hP, D_al hAl (D_pre hD)⟩) rfl rfl hl.1 rfl (lv_room (Nat.le_of_ble_eq_true rfl)) dL_refusesAny_249 ⟨Nat.le_of_ble_eq_true rfl, Nat.le_of_ble_eq_true rfl⟩) hP hD hS hJ0 hAl rfl (fun WC H locs hX hP hD hS hJ => ?_)
  refine lv_bipush (v := -12) hx hb dL_refusesAny_252 (by decide +kernel) ?_
  refine lv_icmp_ne (tgt := 270) hx hb dL_refusesAny_254 (by decide) (fun h => absurd h (by decide +kernel)) (fun _ => ?_)
  refine lv_aload_n hx hb dL_refusesAny_257 rfl (lv_at hl 1 rfl) ?_
  refine lv_bipush (v := nI 9) hx hb dL_refusesAny_258 (by decide +kernel) ?_
  refine lv_iconst (v := nI 0) hx hb dL_refusesAny_260 (by decide +kernel) ?_
  refine lv_iconst (v := nI 0) hx hb dL_refusesAny_261 (by decide +kernel) ?_
  refine cxc (st1 := [.int (-12)]) (vx_runSW (As := [.ref fe, .int (nI 9), .int (nI 0), .int (nI 0)]) (rest := []) ⟨hx, hb, hml, hown, hts⟩ (CC_obey_e1 l hlt G hX hR hB (show ¬ false = true from Bool.false_ne_true) (nI 0) (nI 0)) (vx_cwSW 4 hts gL_refusesAny_L_call rfl rfl rfl (by decide +kernel) ⟨Nat.le_of_ble_eq_true rfl, Nat.le_of_ble_eq_true rfl⟩) (PK.preS hE hJ ⟨P_pre hP, D_al hAl (D_pre hD)⟩) rfl rfl hl.1 rfl (lv_room (Nat.le_of_ble_eq_true rfl)) dL_refusesAny_262 ⟨Nat.le_of_ble_eq_true rfl, Nat.le_of_ble_eq_true rfl⟩) hP hD hS hJ0 hAl rfl (fun WC H locs hX hP hD hS hJ => ?_)
  refine lv_bipush (v := -12) hx hb dL_refusesAny_265 (by decide +kernel) ?_
  refine lv_icmp_eq (tgt := 272) hx hb dL_refusesAny_267 (by decide) (fun _ => ?_) (fun h => absurd h (by decide +kernel))
  refine lv_aload_n hx hb dL_refusesAny_272 rfl (lv_at hl 1 rfl) ?_
  refine lv_bipush (v := nI 12) hx hb dL_refusesAny_273 (by decide +kernel) ?_
  refine lv_iload_n hx hb dL_refusesAny_275 rfl (lv_at hl 2 rfl) ?_
  refine lv_if_ne (tgt := 283) hx hb dL_refusesAny_276 (by decide) (fun h => absurd h (by decide +kernel)) (fun _ => ?_)
  refine lv_iconst (v := -1) hx hb dL_refusesAny_279 (by decide +kernel) ?_
  refine lv_goto (tgt := 285) hx hb dL_refusesAny_280 (by decide) ?_
  refine lv_bipush (v := nI 9) hx hb dL_refusesAny_285 (by decide +kernel) ?_
  refine cxc (st1 := [.int (-11)]) (vx_runSW (As := [.ref fe, .int (nI 12), .int (-1), .int (nI 9)]) (rest := []) ⟨hx, hb, hml, hown, hts⟩ (CC_section_e1 l hlt G hX hR hB (-1) (nI 9) (by decide +kernel)) (vx_cwSW 4 hts gL_refusesAny_L_call rfl rfl rfl (by decide +kernel) ⟨Nat.le_of_ble_eq_true rfl, Nat.le_of_ble_eq_true rfl⟩) (PK.preS hE hJ ⟨P_pre hP, D_al hAl (D_pre hD)⟩) rfl rfl hl.1 rfl (lv_room (Nat.le_of_ble_eq_true rfl)) dL_refusesAny_287 ⟨Nat.le_of_ble_eq_true rfl, Nat.le_of_ble_eq_true rfl⟩) hP hD hS hJ0 hAl rfl (fun WC H locs hX hP hD hS hJ => ?_)
  refine lv_bipush (v := -11) hx hb dL_refusesAny_290 (by decide +kernel) ?_
  refine lv_icmp_ne (tgt := 484) hx hb dL_refusesAny_292 (by decide) (fun h => absurd h (by decide +kernel)) (fun _ => ?_)
  refine lv_aload_n hx hb dL_refusesAny_295 rfl (lv_at hl 1 rfl) ?_
  refine lv_bipush (v := nI 12) hx hb dL_refusesAny_296 (by decide +kernel) ?_
  refine lv_iconst (v := nI 0) hx hb dL_refusesAny_298 (by decide +kernel) ?_
  refine lv_iload_n hx hb dL_refusesAny_299 rfl (lv_at hl 2 rfl) ?_
  refine lv_if_ne (tgt := 307) hx hb dL_refusesAny_300 (by decide) (fun h => absurd h (by decide +kernel)) (fun _ => ?_)
  refine lv_iconst (v := -1) hx hb dL_refusesAny_303 (by decide +kernel) ?_
  refine lv_goto (tgt := 308) hx hb dL_refusesAny_304 (by decide) ?_
  refine cxc (st1 := [.int (-12)]) (vx_runSW (As := [.ref fe, .int (nI 12), .int (nI 0), .int (-1)]) (rest := []) ⟨hx, hb, hml, hown, hts⟩ (CC_section_e2 l hlt G hX hR hB (nI 0) (-1) (by decide +kernel) (by decide +kernel)) (vx_cwSW 4 hts gL_refusesAny_L_call rfl rfl rfl (by decide +kernel) ⟨Nat.le_of_ble_eq_true rfl, Nat.le_of_ble_eq_true rfl⟩) (PK.preS hE hJ ⟨P_pre hP, D_al hAl (D_pre hD)⟩) rfl rfl hl.1 rfl (lv_room (Nat.le_of_ble_eq_true rfl)) dL_refusesAny_308 ⟨Nat.le_of_ble_eq_true rfl, Nat.le_of_ble_eq_true rfl⟩) hP hD hS hJ0 hAl rfl (fun WC H locs hX hP hD hS hJ => ?_)
  refine lv_bipush (v := -12) hx hb dL_refusesAny_311 (by decide +kernel) ?_
  refine lv_icmp_ne (tgt := 484) hx hb dL_refusesAny_313 (by decide) (fun h => absurd h (by decide +kernel)) (fun _ => ?_)
  refine lv_aload_n hx hb dL_refusesAny_316 rfl (lv_at hl 1 rfl) ?_
  refine lv_bipush (v := nI 13) hx hb dL_refusesAny_317 (by decide +kernel) ?_
  refine lv_iload_n hx hb dL_refusesAny_319 rfl (lv_at hl 0 rfl) ?_
  refine lv_iconst (v := -1) hx hb dL_refusesAny_320 (by decide +kernel) ?_
  refine cxc (st1 := [.int (-11)]) (vx_runSW (As := [.ref fe, .int (nI 13), .int (-1), .int (-1)]) (rest := []) ⟨hx, hb, hml, hown, hts⟩ (CC_waiting_e1 l hlt G hX hR hB (-1) (-1) (by decide +kernel)) (vx_cwSW 4 hts gL_refusesAny_L_call rfl rfl rfl (by decide +kernel) ⟨Nat.le_of_ble_eq_true rfl, Nat.le_of_ble_eq_true rfl⟩) (PK.preS hE hJ ⟨P_pre hP, D_al hAl (D_pre hD)⟩) rfl rfl hl.1 rfl (lv_room (Nat.le_of_ble_eq_true rfl)) dL_refusesAny_321 ⟨Nat.le_of_ble_eq_true rfl, Nat.le_of_ble_eq_true rfl⟩) hP hD hS hJ0 hAl rfl (fun WC H locs hX hP hD hS hJ => ?_)
  refine lv_bipush (v := -11) hx hb dL_refusesAny_324 (by decide +kernel) ?_
  refine lv_icmp_ne (tgt := 484) hx hb dL_refusesAny_326 (by decide) (fun h => absurd h (by decide +kernel)) (fun _ => ?_)
  refine lv_aload_n hx hb dL_refusesAny_329 rfl (lv_at hl 1 rfl) ?_
  refine lv_bipush (v := nI 13) hx hb dL_refusesAny_330 (by decide +kernel) ?_
  refine lv_iconst (v := nI 0) hx hb dL_refusesAny_332 (by decide +kernel) ?_
  refine lv_iconst (v := -1) hx hb dL_refusesAny_333 (by decide +kernel) ?_
  refine lv_iload_n hx hb dL_refusesAny_334 rfl (lv_at hl 2 rfl) ?_
  refine lv_isub hx hb dL_refusesAny_335 ?_
  refine tI (y := (-1)) (by decide +kernel) ?_
  refine cxc (st1 := [.int (-12)]) (vx_runSW (As := [.ref fe, .int (nI 13), .int (nI 0), .int (-1)]) (rest := []) ⟨hx, hb, hml, hown, hts⟩ (CC_waiting_e2 l hlt G hX hR hB (nI 0) (-1) (by decide +kernel) (by decide +kernel)) (vx_cwSW 4 hts gL_refusesAny_L_call rfl rfl rfl (by decide +kernel) ⟨Nat.le_of_ble_eq_true rfl, Nat.le_of_ble_eq_true rfl⟩) (PK.preS hE hJ ⟨P_pre hP, D_al hAl (D_pre hD)⟩) rfl rfl hl.1 rfl (lv_room (Nat.le_of_ble_eq_true rfl)) dL_refusesAny_336 ⟨Nat.le_of_ble_eq_true rfl, Nat.le_of_ble_eq_true rfl⟩) hP hD hS hJ0 hAl rfl (fun WC H locs hX hP hD hS hJ => ?_)
  refine lv_bipush (v := -12) hx hb dL_refusesAny_339 (by decide +kernel) ?_
  refine lv_icmp_ne (tgt := 484) hx hb dL_refusesAny_341 (by decide) (fun h => absurd h (by decide +kernel)) (fun _ => ?_)
  refine lv_aload_n hx hb dL_refusesAny_344 rfl (lv_at hl 1 rfl) ?_
  refine lv_bipush (v := nI 14) hx hb dL_refusesAny_345 (by decide +kernel) ?_
  refine lv_iload_n hx hb dL_refusesAny_347 rfl (lv_at hl 0 rfl) ?_
  refine lv_bipush (v := -19) hx hb dL_refusesAny_348 (by decide +kernel) ?_
  refine cxc (st1 := [.int (-11)]) (vx_runSW (As := [.ref fe, .int (nI 14), .int (-1), .int (-19)]) (rest := []) ⟨hx, hb, hml, hown, hts⟩ (CC_deck_e1 l hlt G hX hR hB (-19) (-1) (by decide +kernel)) (vx_cwSW 4 hts gL_refusesAny_L_call rfl rfl rfl (by decide +kernel) ⟨Nat.le_of_ble_eq_true rfl, Nat.le_of_ble_eq_true rfl⟩) (PK.preS hE hJ ⟨P_pre hP, D_al hAl (D_pre hD)⟩) rfl rfl hl.1 rfl (lv_room (Nat.le_of_ble_eq_true rfl)) dL_refusesAny_350 ⟨Nat.le_of_ble_eq_true rfl, Nat.le_of_ble_eq_true rfl⟩) hP hD hS hJ0 hAl rfl (fun WC H locs hX hP hD hS hJ => ?_)
  refine lv_bipush (v := -11) hx hb dL_refusesAny_353 (by decide +kernel) ?_
  refine lv_icmp_ne (tgt := 484) hx hb dL_refusesAny_355 (by decide) (fun h => absurd h (by decide +kernel)) (fun _ => ?_)
  refine lv_aload_n hx hb dL_refusesAny_358 rfl (lv_at hl 1 rfl) ?_
  refine lv_bipush (v := nI 14) hx hb dL_refusesAny_359 (by decide +kernel) ?_
  refine lv_iconst (v := nI 0) hx hb dL_refusesAny_361 (by decide +kernel) ?_
  refine lv_iload_n hx hb dL_refusesAny_362 rfl (lv_at hl 2 rfl) ?_
  refine lv_if_ne (tgt := 371) hx hb dL_refusesAny_363 (by decide) (fun h => absurd h (by decide +kernel)) (fun _ => ?_)
  refine lv_bipush (v := -10) hx hb dL_refusesAny_366 (by decide +kernel) ?_
  refine lv_goto (tgt := 372) hx hb dL_refusesAny_368 (by decide) ?_
  refine cxc (st1 := [.int (-12)]) (vx_runSW (As := [.ref fe, .int (nI 14), .int (nI 0), .int (-10)]) (rest := []) ⟨hx, hb, hml, hown, hts⟩ (CC_deck_e2a l hlt G hX hR hB (-10) (nI 0) (by decide +kernel) (by decide +kernel)) (vx_cwSW 4 hts gL_refusesAny_L_call rfl rfl rfl (by decide +kernel) ⟨Nat.le_of_ble_eq_true rfl, Nat.le_of_ble_eq_true rfl⟩) (PK.preS hE hJ ⟨P_pre hP, D_al hAl (D_pre hD)⟩) rfl rfl hl.1 rfl (lv_room (Nat.le_of_ble_eq_true rfl)) dL_refusesAny_372 ⟨Nat.le_of_ble_eq_true rfl, Nat.le_of_ble_eq_true rfl⟩) hP hD hS hJ0 hAl rfl (fun WC H locs hX hP hD hS hJ => ?_)
  refine lv_bipush (v := -12) hx hb dL_refusesAny_375 (by decide +kernel) ?_
  refine lv_icmp_ne (tgt := 484) hx hb dL_refusesAny_377 (by decide) (fun h => absurd h (by decide +kernel)) (fun _ => ?_)
  refine lv_aload_n hx hb dL_refusesAny_380 rfl (lv_at hl 1 rfl) ?_
  refine lv_bipush (v := nI 15) hx hb dL_refusesAny_381 (by decide +kernel) ?_
  refine lv_iload_n hx hb dL_refusesAny_383 rfl (lv_at hl 2 rfl) ?_
  refine lv_if_ne (tgt := 391) hx hb dL_refusesAny_384 (by decide) (fun h => absurd h (by decide +kernel)) (fun _ => ?_)
  refine lv_iconst (v := -1) hx hb dL_refusesAny_387 (by decide +kernel) ?_
  refine lv_goto (tgt := 393) hx hb dL_refusesAny_388 (by decide) ?_
  refine lv_iconst (v := nI 0) hx hb dL_refusesAny_393 (by decide +kernel) ?_
  refine cxc (st1 := [.int (-12)]) (vx_runSW (As := [.ref fe, .int (nI 15), .int (-1), .int (nI 0)]) (rest := []) ⟨hx, hb, hml, hown, hts⟩ (CC_count_e1 l hlt G hX hR hB (-1) (by decide +kernel) (nI 0)) (vx_cwSW 4 hts gL_refusesAny_L_call rfl rfl rfl (by decide +kernel) ⟨Nat.le_of_ble_eq_true rfl, Nat.le_of_ble_eq_true rfl⟩) (PK.preS hE hJ ⟨P_pre hP, D_al hAl (D_pre hD)⟩) rfl rfl hl.1 rfl (lv_room (Nat.le_of_ble_eq_true rfl)) dL_refusesAny_394 ⟨Nat.le_of_ble_eq_true rfl, Nat.le_of_ble_eq_true rfl⟩) hP hD hS hJ0 hAl rfl (fun WC H locs hX hP hD hS hJ => ?_)
  refine lv_bipush (v := -12) hx hb dL_refusesAny_397 (by decide +kernel) ?_
  refine lv_icmp_ne (tgt := 484) hx hb dL_refusesAny_399 (by decide) (fun h => absurd h (by decide +kernel)) (fun _ => ?_)
  refine lv_aload_n hx hb dL_refusesAny_402 rfl (lv_at hl 1 rfl) ?_
  refine lv_bipush (v := nI 16) hx hb dL_refusesAny_403 (by decide +kernel) ?_
  refine lv_iload_n hx hb dL_refusesAny_405 rfl (lv_at hl 2 rfl) ?_
  refine lv_if_ne (tgt := 413) hx hb dL_refusesAny_406 (by decide) (fun h => absurd h (by decide +kernel)) (fun _ => ?_)
  refine lv_iconst (v := -1) hx hb dL_refusesAny_409 (by decide +kernel) ?_
  refine lv_goto (tgt := 415) hx hb dL_refusesAny_410 (by decide) ?_
  refine lv_iconst (v := nI 0) hx hb dL_refusesAny_415 (by decide +kernel) ?_
  refine cxc (st1 := [.int (-11)]) (vx_runSW (As := [.ref fe, .int (nI 16), .int (-1), .int (nI 0)]) (rest := []) ⟨hx, hb, hml, hown, hts⟩ (CC_currentOf_e1 l hlt G hX hR hB (-1) (by decide +kernel) (nI 0)) (vx_cwSW 4 hts gL_refusesAny_L_call rfl rfl rfl (by decide +kernel) ⟨Nat.le_of_ble_eq_true rfl, Nat.le_of_ble_eq_true rfl⟩) (PK.preS hE hJ ⟨P_pre hP, D_al hAl (D_pre hD)⟩) rfl rfl hl.1 rfl (lv_room (Nat.le_of_ble_eq_true rfl)) dL_refusesAny_416 ⟨Nat.le_of_ble_eq_true rfl, Nat.le_of_ble_eq_true rfl⟩) hP hD hS hJ0 hAl rfl (fun WC H locs hX hP hD hS hJ => ?_)
  refine lv_bipush (v := -11) hx hb dL_refusesAny_419 (by decide +kernel) ?_
  refine lv_icmp_ne (tgt := 484) hx hb dL_refusesAny_421 (by decide) (fun h => absurd h (by decide +kernel)) (fun _ => ?_)
  refine lv_aload_n hx hb dL_refusesAny_424 rfl (lv_at hl 1 rfl) ?_
  refine lv_bipush (v := nI 17) hx hb dL_refusesAny_425 (by decide +kernel) ?_
  refine lv_iload_n hx hb dL_refusesAny_427 rfl (lv_at hl 2 rfl) ?_
  refine lv_if_ne (tgt := 435) hx hb dL_refusesAny_428 (by decide) (fun h => absurd h (by decide +kernel)) (fun _ => ?_)
  refine lv_iconst (v := -1) hx hb dL_refusesAny_431 (by decide +kernel) ?_
  refine lv_goto (tgt := 436) hx hb dL_refusesAny_432 (by decide) ?_
  refine lv_iconst (v := nI 0) hx hb dL_refusesAny_436 (by decide +kernel) ?_
  refine cxc (st1 := [.int (-11)]) (vx_runSW (As := [.ref fe, .int (nI 17), .int (-1), .int (nI 0)]) (rest := []) ⟨hx, hb, hml, hown, hts⟩ (CC_setting_e1 l hlt G hX hR hB (-1) (by decide +kernel) (nI 0)) (vx_cwSW 4 hts gL_refusesAny_L_call rfl rfl rfl (by decide +kernel) ⟨Nat.le_of_ble_eq_true rfl, Nat.le_of_ble_eq_true rfl⟩) (PK.preS hE hJ ⟨P_pre hP, D_al hAl (D_pre hD)⟩) rfl rfl hl.1 rfl (lv_room (Nat.le_of_ble_eq_true rfl)) dL_refusesAny_437 ⟨Nat.le_of_ble_eq_true rfl, Nat.le_of_ble_eq_true rfl⟩) hP hD hS hJ0 hAl rfl (fun WC H locs hX hP hD hS hJ => ?_)
  refine lv_bipush (v := -11) hx hb dL_refusesAny_440 (by decide +kernel) ?_
  refine lv_icmp_ne (tgt := 484) hx hb dL_refusesAny_442 (by decide) (fun h => absurd h (by decide +kernel)) (fun _ => ?_)
  refine lv_aload_n hx hb dL_refusesAny_445 rfl (lv_at hl 1 rfl) ?_
  refine lv_bipush (v := nI 18) hx hb dL_refusesAny_446 (by decide +kernel) ?_
  refine lv_iload_n hx hb dL_refusesAny_448 rfl (lv_at hl 0 rfl) ?_
  refine lv_iconst (v := nI 0) hx hb dL_refusesAny_449 (by decide +kernel) ?_
  refine cxc (st1 := [.int (-11)]) (vx_runSW (As := [.ref fe, .int (nI 18), .int (-1), .int (nI 0)]) (rest := []) ⟨hx, hb, hml, hown, hts⟩ (CC_ifLoaded_e1 l hlt G hX hR hB (-1) (by decide +kernel) (nI 0)) (vx_cwSW 4 hts gL_refusesAny_L_call rfl rfl rfl (by decide +kernel) ⟨Nat.le_of_ble_eq_true rfl, Nat.le_of_ble_eq_true rfl⟩) (PK.preS hE hJ ⟨P_pre hP, D_al hAl (D_pre hD)⟩) rfl rfl hl.1 rfl (lv_room (Nat.le_of_ble_eq_true rfl)) dL_refusesAny_450 ⟨Nat.le_of_ble_eq_true rfl, Nat.le_of_ble_eq_true rfl⟩) hP hD hS hJ0 hAl rfl (fun WC H locs hX hP hD hS hJ => ?_)
  refine lv_bipush (v := -11) hx hb dL_refusesAny_453 (by decide +kernel) ?_
  refine lv_icmp_ne (tgt := 484) hx hb dL_refusesAny_455 (by decide) (fun h => absurd h (by decide +kernel)) (fun _ => ?_)
  refine lv_aload_n hx hb dL_refusesAny_458 rfl (lv_at hl 1 rfl) ?_
  refine lv_bipush (v := nI 19) hx hb dL_refusesAny_459 (by decide +kernel) ?_
  refine lv_iload_n hx hb dL_refusesAny_461 rfl (lv_at hl 2 rfl) ?_
  refine lv_if_ne (tgt := 469) hx hb dL_refusesAny_462 (by decide) (fun h => absurd h (by decide +kernel)) (fun _ => ?_)
  refine lv_iconst (v := -1) hx hb dL_refusesAny_465 (by decide +kernel) ?_
  refine lv_goto (tgt := 471) hx hb dL_refusesAny_466 (by decide) ?_
  refine lv_iconst (v := nI 0) hx hb dL_refusesAny_471 (by decide +kernel) ?_
  refine cxc (st1 := [.int (-12)]) (vx_runSW (As := [.ref fe, .int (nI 19), .int (-1), .int (nI 0)]) (rest := []) ⟨hx, hb, hml, hown, hts⟩ (CC_leastList_e1 l hlt G hX hR hB (-1) (by decide +kernel) (nI 0)) (vx_cwSW 4 hts gL_refusesAny_L_call rfl rfl rfl (by decide +kernel) ⟨Nat.le_of_ble_eq_true rfl, Nat.le_of_ble_eq_true rfl⟩) (PK.preS hE hJ ⟨P_pre hP, D_al hAl (D_pre hD)⟩) rfl rfl hl.1 rfl (lv_room (Nat.le_of_ble_eq_true rfl)) dL_refusesAny_472 ⟨Nat.le_of_ble_eq_true rfl, Nat.le_of_ble_eq_true rfl⟩) hP hD hS hJ0 hAl rfl (fun WC H locs hX hP hD hS hJ => ?_)
  refine lv_bipush (v := -12) hx hb dL_refusesAny_475 (by decide +kernel) ?_
  refine lv_icmp_ne (tgt := 484) hx hb dL_refusesAny_477 (by decide) (fun h => absurd h (by decide +kernel)) (fun _ => ?_)
  refine lv_iconst (v := nI 1) hx hb dL_refusesAny_480 (by decide +kernel) ?_
  refine lv_goto (tgt := 485) hx hb dL_refusesAny_481 (by decide) ?_
  subst hAe
  exact W.zret hx hb hr rfl (fun t ht hW => ⟨rfl, by rw [ht]; exact ⟨WC, hX, P_pre hP, D_pre hD⟩, hS.F ht⟩) hS.2.2 dL_refusesAny_485
set_option maxHeartbeats 8000000 in
set_option maxRecDepth 100000 in
theorem K_refusesAny_1 (l : Launch) (hlt : l.stackTraces = false) (G : eG) {lo : Nat} {fe B : Nat} {f sf : Nat → Int32} {ff : Nat → Nat → Int32} {old sz : Nat} {tx : Nat → Int32} {hsn : Int32} {WC : va_W} (hX : XS G fe f sf ff old sz 0 tx hsn WC) (hR : PR B f sf ff old sz 0 tx hsn) (hB : B < 700000000) : Met l yL_refusesAny wsL_refusesAny ({ frames := 8, cells := 24, slots := 144, locals := 130 }) (PK lo [.ref fe, .int (nI 1)] G (fun H => va_P G.1 vwCl WC H ∧ va_D (AL lo) WC)) (MV (some (.int (nI 1))) (fun H => ∃ W', XS G fe f sf ff old sz 0 tx hsn W' ∧ va_P G.1 vwCl W' H ∧ va_D (inW WC) W') (inW WC)) 24 144 (inW WC) := by
  refine ofBK (cc := cL_refusesAny) (maxL := 3) (ret := some .boolean) (by decide) rfl (Nat.le_of_ble_eq_true rfl) ?_
  intro p e s m below meth c hx hb hr hlocks hml hown hin hts hE hJ0 hI ls hl
  replace hown : s.vm.findClass RL = some m.cls := hown
  have hl : lv_has ls 3 [(0, .ref fe), (1, .int (nI 1))] := hl
  obtain ⟨hP, hD0⟩ := hI
  have hAl : ∀ q, inW WC q → lo ≤ q := fun q h => inW_D hD0 q h
  have hD : va_D (inW WC) (WC ++ []) := by rw [List.append_nil]; exact D_self hD0
  obtain ⟨A, hAe⟩ : ∃ A, A = inW WC := ⟨_, rfl⟩
  rw [← hAe] at hD hAl
  have hS : va_S A s.heap s.heap [] := va_S.rf
  obtain ⟨H, hHe⟩ : ∃ H, H = s.heap := ⟨_, rfl⟩
  obtain ⟨locs, hle⟩ : ∃ q : List Loc, q = [] := ⟨_, rfl⟩
  rw [← hle] at hS ⊢
  have hP : va_P G.1 vwCl (WC ++ []) H := by rw [hHe, List.append_nil]; exact hP
  replace hS : va_S A s.heap H locs := by rw [hHe]; exact hS
  have hJ : JB lo s H := hJ0.S hAl hS
  refine tH hHe ?_
  refine lv_iload_n hx hb dL_refusesAny_0 rfl (lv_at hl 1 rfl) ?_
  refine lv_if_ne (tgt := 8) hx hb dL_refusesAny_1 (by decide) (fun _ => ?_) (fun h => absurd h (by decide +kernel))
  refine lv_iconst (v := nI 2) hx hb dL_refusesAny_8 (by decide +kernel) ?_
  refine lv_istore_n (lv' := [(2, .int (nI 2)), (0, .ref fe), (1, .int (nI 1))]) hx hb dL_refusesAny_9 rfl hl (by decide) rfl (fun ls hl => ?_)
  refine lv_aload_n hx hb dL_refusesAny_10 rfl (lv_at hl 1 rfl) ?_
  refine lv_iconst (v := nI 0) hx hb dL_refusesAny_11 (by decide +kernel) ?_
  refine lv_iload_n hx hb dL_refusesAny_12 rfl (lv_at hl 0 rfl) ?_
  refine lv_bipush (v := nI 99) hx hb dL_refusesAny_13 (by decide +kernel) ?_
  refine cxc (st1 := [.int (-11)]) (vx_runSW (As := [.ref fe, .int (nI 0), .int (nI 2), .int (nI 99)]) (rest := []) ⟨hx, hb, hml, hown, hts⟩ (CC_arrive_e1 l hlt G hX hR hB (nI 2) (nI 99) (by decide +kernel)) (vx_cwSW 4 hts gL_refusesAny_L_call rfl rfl rfl (by decide +kernel) ⟨Nat.le_of_ble_eq_true rfl, Nat.le_of_ble_eq_true rfl⟩) (PK.preS hE hJ ⟨P_pre hP, D_al hAl (D_pre hD)⟩) rfl rfl hl.1 rfl (lv_room (Nat.le_of_ble_eq_true rfl)) dL_refusesAny_15 ⟨Nat.le_of_ble_eq_true rfl, Nat.le_of_ble_eq_true rfl⟩) hP hD hS hJ0 hAl rfl (fun WC H locs hX hP hD hS hJ => ?_)
  refine lv_bipush (v := -11) hx hb dL_refusesAny_18 (by decide +kernel) ?_
  refine lv_icmp_ne (tgt := 270) hx hb dL_refusesAny_20 (by decide) (fun h => absurd h (by decide +kernel)) (fun _ => ?_)
  refine lv_aload_n hx hb dL_refusesAny_23 rfl (lv_at hl 1 rfl) ?_
  refine lv_iconst (v := nI 0) hx hb dL_refusesAny_24 (by decide +kernel) ?_
  refine lv_iconst (v := nI 0) hx hb dL_refusesAny_25 (by decide +kernel) ?_
  refine lv_iload_n hx hb dL_refusesAny_26 rfl (lv_at hl 2 rfl) ?_
  refine lv_if_ne (tgt := 34) hx hb dL_refusesAny_27 (by decide) (fun _ => ?_) (fun h => absurd h (by decide +kernel))
  refine lv_bipush (v := nI 21) hx hb dL_refusesAny_34 (by decide +kernel) ?_
  refine cxc (st1 := [.int (-12)]) (vx_runSW (As := [.ref fe, .int (nI 0), .int (nI 0), .int (nI 21)]) (rest := []) ⟨hx, hb, hml, hown, hts⟩ (CC_arrive_e2 l hlt G hX hR hB (nI 0) (nI 21) (by decide +kernel) (by decide +kernel)) (vx_cwSW 4 hts gL_refusesAny_L_call rfl rfl rfl (by decide +kernel) ⟨Nat.le_of_ble_eq_true rfl, Nat.le_of_ble_eq_true rfl⟩) (PK.preS hE hJ ⟨P_pre hP, D_al hAl (D_pre hD)⟩) rfl rfl hl.1 rfl (lv_room (Nat.le_of_ble_eq_true rfl)) dL_refusesAny_36 ⟨Nat.le_of_ble_eq_true rfl, Nat.le_of_ble_eq_true rfl⟩) hP hD hS hJ0 hAl rfl (fun WC H locs hX hP hD hS hJ => ?_)
  refine lv_bipush (v := -12) hx hb dL_refusesAny_39 (by decide +kernel) ?_
  refine lv_icmp_ne (tgt := 270) hx hb dL_refusesAny_41 (by decide) (fun h => absurd h (by decide +kernel)) (fun _ => ?_)
  refine lv_aload_n hx hb dL_refusesAny_44 rfl (lv_at hl 1 rfl) ?_
  refine lv_iconst (v := nI 1) hx hb dL_refusesAny_45 (by decide +kernel) ?_
  refine lv_iload_n hx hb dL_refusesAny_46 rfl (lv_at hl 0 rfl) ?_
  refine lv_iconst (v := nI 0) hx hb dL_refusesAny_47 (by decide +kernel) ?_
  refine cxc (st1 := [.int (-11)]) (vx_runSW (As := [.ref fe, .int (nI 1), .int (nI 2), .int (nI 0)]) (rest := []) ⟨hx, hb, hml, hown, hts⟩ (CC_load_e1 l hlt G hX hR hB (nI 2) (by decide +kernel) (nI 0)) (vx_cwSW 4 hts gL_refusesAny_L_call rfl rfl rfl (by decide +kernel) ⟨Nat.le_of_ble_eq_true rfl, Nat.le_of_ble_eq_true rfl⟩) (PK.preS hE hJ ⟨P_pre hP, D_al hAl (D_pre hD)⟩) rfl rfl hl.1 rfl (lv_room (Nat.le_of_ble_eq_true rfl)) dL_refusesAny_48 ⟨Nat.le_of_ble_eq_true rfl, Nat.le_of_ble_eq_true rfl⟩) hP hD hS hJ0 hAl rfl (fun WC H locs hX hP hD hS hJ => ?_)
  refine lv_bipush (v := -11) hx hb dL_refusesAny_51 (by decide +kernel) ?_
  refine lv_icmp_ne (tgt := 270) hx hb dL_refusesAny_53 (by decide) (fun h => absurd h (by decide +kernel)) (fun _ => ?_)
  refine lv_aload_n hx hb dL_refusesAny_56 rfl (lv_at hl 1 rfl) ?_
  refine lv_iconst (v := nI 4) hx hb dL_refusesAny_57 (by decide +kernel) ?_
  refine lv_iload_n hx hb dL_refusesAny_58 rfl (lv_at hl 2 rfl) ?_
  refine lv_if_ne (tgt := 66) hx hb dL_refusesAny_59 (by decide) (fun _ => ?_) (fun h => absurd h (by decide +kernel))
  refine lv_bipush (v := nI 101) hx hb dL_refusesAny_66 (by decide +kernel) ?_
  refine lv_iconst (v := nI 0) hx hb dL_refusesAny_68 (by decide +kernel) ?_
  refine cxc (st1 := [.int (-12)]) (vx_runSW (As := [.ref fe, .int (nI 4), .int (nI 101), .int (nI 0)]) (rest := []) ⟨hx, hb, hml, hown, hts⟩ (CC_pass_e1 l hlt G hX hR hB (nI 101) (by decide +kernel) (nI 0)) (vx_cwSW 4 hts gL_refusesAny_L_call rfl rfl rfl (by decide +kernel) ⟨Nat.le_of_ble_eq_true rfl, Nat.le_of_ble_eq_true rfl⟩) (PK.preS hE hJ ⟨P_pre hP, D_al hAl (D_pre hD)⟩) rfl rfl hl.1 rfl (lv_room (Nat.le_of_ble_eq_true rfl)) dL_refusesAny_69 ⟨Nat.le_of_ble_eq_true rfl, Nat.le_of_ble_eq_true rfl⟩) hP hD hS hJ0 hAl rfl (fun WC H locs hX hP hD hS hJ => ?_)
  refine lv_bipush (v := -12) hx hb dL_refusesAny_72 (by decide +kernel) ?_
  refine lv_icmp_ne (tgt := 270) hx hb dL_refusesAny_74 (by decide) (fun h => absurd h (by decide +kernel)) (fun _ => ?_)
  refine lv_aload_n hx hb dL_refusesAny_77 rfl (lv_at hl 1 rfl) ?_
  refine lv_iconst (v := nI 5) hx hb dL_refusesAny_78 (by decide +kernel) ?_
  refine lv_iload_n hx hb dL_refusesAny_79 rfl (lv_at hl 2 rfl) ?_
  refine lv_if_ne (tgt := 87) hx hb dL_refusesAny_80 (by decide) (fun _ => ?_) (fun h => absurd h (by decide +kernel))
  refine lv_bipush (v := nI 6) hx hb dL_refusesAny_87 (by decide +kernel) ?_
  refine lv_iconst (v := nI 0) hx hb dL_refusesAny_89 (by decide +kernel) ?_
  refine cxc (st1 := [.int (-12)]) (vx_runSW (As := [.ref fe, .int (nI 5), .int (nI 6), .int (nI 0)]) (rest := []) ⟨hx, hb, hml, hown, hts⟩ (CC_draw_e1 l hlt G hX hR hB (nI 6) (by decide +kernel) (nI 0)) (vx_cwSW 4 hts gL_refusesAny_L_call rfl rfl rfl (by decide +kernel) ⟨Nat.le_of_ble_eq_true rfl, Nat.le_of_ble_eq_true rfl⟩) (PK.preS hE hJ ⟨P_pre hP, D_al hAl (D_pre hD)⟩) rfl rfl hl.1 rfl (lv_room (Nat.le_of_ble_eq_true rfl)) dL_refusesAny_90 ⟨Nat.le_of_ble_eq_true rfl, Nat.le_of_ble_eq_true rfl⟩) hP hD hS hJ0 hAl rfl (fun WC H locs hX hP hD hS hJ => ?_)
  refine lv_bipush (v := -12) hx hb dL_refusesAny_93 (by decide +kernel) ?_
  refine lv_icmp_ne (tgt := 270) hx hb dL_refusesAny_95 (by decide) (fun h => absurd h (by decide +kernel)) (fun _ => ?_)
  refine lv_aload_n hx hb dL_refusesAny_98 rfl (lv_at hl 1 rfl) ?_
  refine lv_bipush (v := nI 6) hx hb dL_refusesAny_99 (by decide +kernel) ?_
  refine lv_iload_n hx hb dL_refusesAny_101 rfl (lv_at hl 2 rfl) ?_
  refine lv_if_ne (tgt := 109) hx hb dL_refusesAny_102 (by decide) (fun _ => ?_) (fun h => absurd h (by decide +kernel))
  refine lv_bipush (v := nI 24) hx hb dL_refusesAny_109 (by decide +kernel) ?_
  refine lv_bipush (v := nI 99) hx hb dL_refusesAny_111 (by decide +kernel) ?_
  refine cxc (st1 := [.int (-11)]) (vx_runSW (As := [.ref fe, .int (nI 6), .int (nI 24), .int (nI 99)]) (rest := []) ⟨hx, hb, hml, hown, hts⟩ (CC_current_e1 l hlt G hX hR hB (nI 24) (nI 99) (by decide +kernel)) (vx_cwSW 4 hts gL_refusesAny_L_call rfl rfl rfl (by decide +kernel) ⟨Nat.le_of_ble_eq_true rfl, Nat.le_of_ble_eq_true rfl⟩) (PK.preS hE hJ ⟨P_pre hP, D_al hAl (D_pre hD)⟩) rfl rfl hl.1 rfl (lv_room (Nat.le_of_ble_eq_true rfl)) dL_refusesAny_113 ⟨Nat.le_of_ble_eq_true rfl, Nat.le_of_ble_eq_true rfl⟩) hP hD hS hJ0 hAl rfl (fun WC H locs hX hP hD hS hJ => ?_)
  refine lv_bipush (v := -11) hx hb dL_refusesAny_116 (by decide +kernel) ?_
  refine lv_icmp_ne (tgt := 270) hx hb dL_refusesAny_118 (by decide) (fun h => absurd h (by decide +kernel)) (fun _ => ?_)
  refine lv_aload_n hx hb dL_refusesAny_121 rfl (lv_at hl 1 rfl) ?_
  refine lv_bipush (v := nI 6) hx hb dL_refusesAny_122 (by decide +kernel) ?_
  refine lv_iconst (v := nI 0) hx hb dL_refusesAny_124 (by decide +kernel) ?_
  refine lv_iload_n hx hb dL_refusesAny_125 rfl (lv_at hl 2 rfl) ?_
  refine lv_if_ne (tgt := 133) hx hb dL_refusesAny_126 (by decide) (fun _ => ?_) (fun h => absurd h (by decide +kernel))
  refine lv_bipush (v := nI 41) hx hb dL_refusesAny_133 (by decide +kernel) ?_
  refine cxc (st1 := [.int (-12)]) (vx_runSW (As := [.ref fe, .int (nI 6), .int (nI 0), .int (nI 41)]) (rest := []) ⟨hx, hb, hml, hown, hts⟩ (CC_current_e2 l hlt G hX hR hB (nI 0) (nI 41) (by decide +kernel) (by decide +kernel)) (vx_cwSW 4 hts gL_refusesAny_L_call rfl rfl rfl (by decide +kernel) ⟨Nat.le_of_ble_eq_true rfl, Nat.le_of_ble_eq_true rfl⟩) (PK.preS hE hJ ⟨P_pre hP, D_al hAl (D_pre hD)⟩) rfl rfl hl.1 rfl (lv_room (Nat.le_of_ble_eq_true rfl)) dL_refusesAny_135 ⟨Nat.le_of_ble_eq_true rfl, Nat.le_of_ble_eq_true rfl⟩) hP hD hS hJ0 hAl rfl (fun WC H locs hX hP hD hS hJ => ?_)
  refine lv_bipush (v := -12) hx hb dL_refusesAny_138 (by decide +kernel) ?_
  refine lv_icmp_ne (tgt := 270) hx hb dL_refusesAny_140 (by decide) (fun h => absurd h (by decide +kernel)) (fun _ => ?_)
  refine lv_aload_n hx hb dL_refusesAny_143 rfl (lv_at hl 1 rfl) ?_
  refine lv_bipush (v := nI 7) hx hb dL_refusesAny_144 (by decide +kernel) ?_
  refine lv_iload_n hx hb dL_refusesAny_146 rfl (lv_at hl 2 rfl) ?_
  refine lv_if_ne (tgt := 154) hx hb dL_refusesAny_147 (by decide) (fun _ => ?_) (fun h => absurd h (by decide +kernel))
  refine lv_iconst (v := nI 3) hx hb dL_refusesAny_154 (by decide +kernel) ?_
  refine lv_sipush (v := nI 9999) hx hb dL_refusesAny_155 (by decide +kernel) ?_
  refine cxc (st1 := [.int (-11)]) (vx_runSW (As := [.ref fe, .int (nI 7), .int (nI 3), .int (nI 9999)]) (rest := []) ⟨hx, hb, hml, hown, hts⟩ (CC_set_e1 l hlt G hX hR hB (nI 3) (nI 9999) (by decide +kernel)) (vx_cwSW 4 hts gL_refusesAny_L_call rfl rfl rfl (by decide +kernel) ⟨Nat.le_of_ble_eq_true rfl, Nat.le_of_ble_eq_true rfl⟩) (PK.preS hE hJ ⟨P_pre hP, D_al hAl (D_pre hD)⟩) rfl rfl hl.1 rfl (lv_room (Nat.le_of_ble_eq_true rfl)) dL_refusesAny_158 ⟨Nat.le_of_ble_eq_true rfl, Nat.le_of_ble_eq_true rfl⟩) hP hD hS hJ0 hAl rfl (fun WC H locs hX hP hD hS hJ => ?_)
  refine lv_bipush (v := -11) hx hb dL_refusesAny_161 (by decide +kernel) ?_
  refine lv_icmp_ne (tgt := 270) hx hb dL_refusesAny_163 (by decide) (fun h => absurd h (by decide +kernel)) (fun _ => ?_)
  refine lv_aload_n hx hb dL_refusesAny_166 rfl (lv_at hl 1 rfl) ?_
  refine lv_bipush (v := nI 7) hx hb dL_refusesAny_167 (by decide +kernel) ?_
  refine lv_iconst (v := nI 0) hx hb dL_refusesAny_169 (by decide +kernel) ?_
  refine lv_iload_n hx hb dL_refusesAny_170 rfl (lv_at hl 2 rfl) ?_
  refine lv_if_ne (tgt := 179) hx hb dL_refusesAny_171 (by decide) (fun _ => ?_) (fun h => absurd h (by decide +kernel))
  refine lv_sipush (v := nI 1000) hx hb dL_refusesAny_179 (by decide +kernel) ?_
  refine cxc (st1 := [.int (-12)]) (vx_runSW (As := [.ref fe, .int (nI 7), .int (nI 0), .int (nI 1000)]) (rest := []) ⟨hx, hb, hml, hown, hts⟩ (CC_set_e2 l hlt G hX hR hB 0 (nI 1000) (by decide +kernel) (by decide +kernel)) (vx_cwSW 4 hts gL_refusesAny_L_call rfl rfl rfl (by decide +kernel) ⟨Nat.le_of_ble_eq_true rfl, Nat.le_of_ble_eq_true rfl⟩) (PK.preS hE hJ ⟨P_pre hP, D_al hAl (D_pre hD)⟩) rfl rfl hl.1 rfl (lv_room (Nat.le_of_ble_eq_true rfl)) dL_refusesAny_182 ⟨Nat.le_of_ble_eq_true rfl, Nat.le_of_ble_eq_true rfl⟩) hP hD hS hJ0 hAl rfl (fun WC H locs hX hP hD hS hJ => ?_)
  refine lv_bipush (v := -12) hx hb dL_refusesAny_185 (by decide +kernel) ?_
  refine lv_icmp_ne (tgt := 270) hx hb dL_refusesAny_187 (by decide) (fun h => absurd h (by decide +kernel)) (fun _ => ?_)
  refine lv_aload_n hx hb dL_refusesAny_190 rfl (lv_at hl 1 rfl) ?_
  refine lv_bipush (v := nI 7) hx hb dL_refusesAny_191 (by decide +kernel) ?_
  refine lv_iconst (v := nI 1) hx hb dL_refusesAny_193 (by decide +kernel) ?_
  refine lv_iload_n hx hb dL_refusesAny_194 rfl (lv_at hl 2 rfl) ?_
  refine lv_if_ne (tgt := 202) hx hb dL_refusesAny_195 (by decide) (fun _ => ?_) (fun h => absurd h (by decide +kernel))
  refine lv_bipush (v := nI 81) hx hb dL_refusesAny_202 (by decide +kernel) ?_
  refine cxc (st1 := [.int (-12)]) (vx_runSW (As := [.ref fe, .int (nI 7), .int (nI 1), .int (nI 81)]) (rest := []) ⟨hx, hb, hml, hown, hts⟩ (CC_set_e2 l hlt G hX hR hB 1 (nI 81) (by decide +kernel) (by decide +kernel)) (vx_cwSW 4 hts gL_refusesAny_L_call rfl rfl rfl (by decide +kernel) ⟨Nat.le_of_ble_eq_true rfl, Nat.le_of_ble_eq_true rfl⟩) (PK.preS hE hJ ⟨P_pre hP, D_al hAl (D_pre hD)⟩) rfl rfl hl.1 rfl (lv_room (Nat.le_of_ble_eq_true rfl)) dL_refusesAny_204 ⟨Nat.le_of_ble_eq_true rfl, Nat.le_of_ble_eq_true rfl⟩) hP hD hS hJ0 hAl rfl (fun WC H locs hX hP hD hS hJ => ?_)
  refine lv_bipush (v := -12) hx hb dL_refusesAny_207 (by decide +kernel) ?_
  refine lv_icmp_ne (tgt := 270) hx hb dL_refusesAny_209 (by decide) (fun h => absurd h (by decide +kernel)) (fun _ => ?_)
  refine lv_aload_n hx hb dL_refusesAny_212 rfl (lv_at hl 1 rfl) ?_
  refine lv_bipush (v := nI 7) hx hb dL_refusesAny_213 (by decide +kernel) ?_
  refine lv_iconst (v := nI 2) hx hb dL_refusesAny_215 (by decide +kernel) ?_
  refine lv_iload_n hx hb dL_refusesAny_216 rfl (lv_at hl 2 rfl) ?_
  refine lv_if_ne (tgt := 224) hx hb dL_refusesAny_217 (by decide) (fun _ => ?_) (fun h => absurd h (by decide +kernel))
  refine lv_bipush (v := nI 51) hx hb dL_refusesAny_224 (by decide +kernel) ?_
  refine cxc (st1 := [.int (-12)]) (vx_runSW (As := [.ref fe, .int (nI 7), .int (nI 2), .int (nI 51)]) (rest := []) ⟨hx, hb, hml, hown, hts⟩ (CC_set_e2 l hlt G hX hR hB 2 (nI 51) (by decide +kernel) (by decide +kernel)) (vx_cwSW 4 hts gL_refusesAny_L_call rfl rfl rfl (by decide +kernel) ⟨Nat.le_of_ble_eq_true rfl, Nat.le_of_ble_eq_true rfl⟩) (PK.preS hE hJ ⟨P_pre hP, D_al hAl (D_pre hD)⟩) rfl rfl hl.1 rfl (lv_room (Nat.le_of_ble_eq_true rfl)) dL_refusesAny_226 ⟨Nat.le_of_ble_eq_true rfl, Nat.le_of_ble_eq_true rfl⟩) hP hD hS hJ0 hAl rfl (fun WC H locs hX hP hD hS hJ => ?_)
  refine lv_bipush (v := -12) hx hb dL_refusesAny_229 (by decide +kernel) ?_
  refine lv_icmp_ne (tgt := 270) hx hb dL_refusesAny_231 (by decide) (fun h => absurd h (by decide +kernel)) (fun _ => ?_)
  refine lv_aload_n hx hb dL_refusesAny_234 rfl (lv_at hl 1 rfl) ?_
  refine lv_bipush (v := nI 8) hx hb dL_refusesAny_235 (by decide +kernel) ?_
  refine lv_iload_n hx hb dL_refusesAny_237 rfl (lv_at hl 2 rfl) ?_
  refine lv_if_ne (tgt := 246) hx hb dL_refusesAny_238 (by decide) (fun _ => ?_) (fun h => absurd h (by decide +kernel))
  refine lv_bipush (v := nI 127) hx hb dL_refusesAny_246 (by decide +kernel) ?_
  refine lv_iconst (v := nI 0) hx hb dL_refusesAny_248 (by decide +kernel) ?_
  refine cxc (st1 := [.int (-12)]) (vx_runSW (As := [.ref fe, .int (nI 8), .int (nI 127), .int (nI 0)]) (rest := []) ⟨hx, hb, hml, hown, hts⟩ (CC_append_e1 l hlt G hX hR hB (nI 127) (by decide +kernel) (nI 0)) (vx_cwSW 4 hts gL_refusesAny_L_call rfl rfl rfl (by decide +kernel) ⟨Nat.le_of_ble_eq_true rfl, Nat.le_of_ble_eq_true rfl⟩) (PK.preS hE hJ ⟨P_pre hP, D_al hAl (D_pre hD)⟩) rfl rfl hl.1 rfl (lv_room (Nat.le_of_ble_eq_true rfl)) dL_refusesAny_249 ⟨Nat.le_of_ble_eq_true rfl, Nat.le_of_ble_eq_true rfl⟩) hP hD hS hJ0 hAl rfl (fun WC H locs hX hP hD hS hJ => ?_)
  refine lv_bipush (v := -12) hx hb dL_refusesAny_252 (by decide +kernel) ?_
  refine lv_icmp_ne (tgt := 270) hx hb dL_refusesAny_254 (by decide) (fun h => absurd h (by decide +kernel)) (fun _ => ?_)
  refine lv_aload_n hx hb dL_refusesAny_257 rfl (lv_at hl 1 rfl) ?_
  refine lv_bipush (v := nI 9) hx hb dL_refusesAny_258 (by decide +kernel) ?_
  refine lv_iconst (v := nI 0) hx hb dL_refusesAny_260 (by decide +kernel) ?_
  refine lv_iconst (v := nI 0) hx hb dL_refusesAny_261 (by decide +kernel) ?_
  refine cxc (st1 := [.int (-12)]) (vx_runSW (As := [.ref fe, .int (nI 9), .int (nI 0), .int (nI 0)]) (rest := []) ⟨hx, hb, hml, hown, hts⟩ (CC_obey_e1 l hlt G hX hR hB (show ¬ false = true from Bool.false_ne_true) (nI 0) (nI 0)) (vx_cwSW 4 hts gL_refusesAny_L_call rfl rfl rfl (by decide +kernel) ⟨Nat.le_of_ble_eq_true rfl, Nat.le_of_ble_eq_true rfl⟩) (PK.preS hE hJ ⟨P_pre hP, D_al hAl (D_pre hD)⟩) rfl rfl hl.1 rfl (lv_room (Nat.le_of_ble_eq_true rfl)) dL_refusesAny_262 ⟨Nat.le_of_ble_eq_true rfl, Nat.le_of_ble_eq_true rfl⟩) hP hD hS hJ0 hAl rfl (fun WC H locs hX hP hD hS hJ => ?_)
  refine lv_bipush (v := -12) hx hb dL_refusesAny_265 (by decide +kernel) ?_
  refine lv_icmp_eq (tgt := 272) hx hb dL_refusesAny_267 (by decide) (fun _ => ?_) (fun h => absurd h (by decide +kernel))
  refine lv_aload_n hx hb dL_refusesAny_272 rfl (lv_at hl 1 rfl) ?_
  refine lv_bipush (v := nI 12) hx hb dL_refusesAny_273 (by decide +kernel) ?_
  refine lv_iload_n hx hb dL_refusesAny_275 rfl (lv_at hl 2 rfl) ?_
  refine lv_if_ne (tgt := 283) hx hb dL_refusesAny_276 (by decide) (fun _ => ?_) (fun h => absurd h (by decide +kernel))
  refine lv_bipush (v := nI 20) hx hb dL_refusesAny_283 (by decide +kernel) ?_
  refine lv_bipush (v := nI 9) hx hb dL_refusesAny_285 (by decide +kernel) ?_
  refine cxc (st1 := [.int (-11)]) (vx_runSW (As := [.ref fe, .int (nI 12), .int (nI 20), .int (nI 9)]) (rest := []) ⟨hx, hb, hml, hown, hts⟩ (CC_section_e1 l hlt G hX hR hB (nI 20) (nI 9) (by decide +kernel)) (vx_cwSW 4 hts gL_refusesAny_L_call rfl rfl rfl (by decide +kernel) ⟨Nat.le_of_ble_eq_true rfl, Nat.le_of_ble_eq_true rfl⟩) (PK.preS hE hJ ⟨P_pre hP, D_al hAl (D_pre hD)⟩) rfl rfl hl.1 rfl (lv_room (Nat.le_of_ble_eq_true rfl)) dL_refusesAny_287 ⟨Nat.le_of_ble_eq_true rfl, Nat.le_of_ble_eq_true rfl⟩) hP hD hS hJ0 hAl rfl (fun WC H locs hX hP hD hS hJ => ?_)
  refine lv_bipush (v := -11) hx hb dL_refusesAny_290 (by decide +kernel) ?_
  refine lv_icmp_ne (tgt := 484) hx hb dL_refusesAny_292 (by decide) (fun h => absurd h (by decide +kernel)) (fun _ => ?_)
  refine lv_aload_n hx hb dL_refusesAny_295 rfl (lv_at hl 1 rfl) ?_
  refine lv_bipush (v := nI 12) hx hb dL_refusesAny_296 (by decide +kernel) ?_
  refine lv_iconst (v := nI 0) hx hb dL_refusesAny_298 (by decide +kernel) ?_
  refine lv_iload_n hx hb dL_refusesAny_299 rfl (lv_at hl 2 rfl) ?_
  refine lv_if_ne (tgt := 307) hx hb dL_refusesAny_300 (by decide) (fun _ => ?_) (fun h => absurd h (by decide +kernel))
  refine lv_iconst (v := nI 3) hx hb dL_refusesAny_307 (by decide +kernel) ?_
  refine cxc (st1 := [.int (-12)]) (vx_runSW (As := [.ref fe, .int (nI 12), .int (nI 0), .int (nI 3)]) (rest := []) ⟨hx, hb, hml, hown, hts⟩ (CC_section_e2 l hlt G hX hR hB (nI 0) (nI 3) (by decide +kernel) (by decide +kernel)) (vx_cwSW 4 hts gL_refusesAny_L_call rfl rfl rfl (by decide +kernel) ⟨Nat.le_of_ble_eq_true rfl, Nat.le_of_ble_eq_true rfl⟩) (PK.preS hE hJ ⟨P_pre hP, D_al hAl (D_pre hD)⟩) rfl rfl hl.1 rfl (lv_room (Nat.le_of_ble_eq_true rfl)) dL_refusesAny_308 ⟨Nat.le_of_ble_eq_true rfl, Nat.le_of_ble_eq_true rfl⟩) hP hD hS hJ0 hAl rfl (fun WC H locs hX hP hD hS hJ => ?_)
  refine lv_bipush (v := -12) hx hb dL_refusesAny_311 (by decide +kernel) ?_
  refine lv_icmp_ne (tgt := 484) hx hb dL_refusesAny_313 (by decide) (fun h => absurd h (by decide +kernel)) (fun _ => ?_)
  refine lv_aload_n hx hb dL_refusesAny_316 rfl (lv_at hl 1 rfl) ?_
  refine lv_bipush (v := nI 13) hx hb dL_refusesAny_317 (by decide +kernel) ?_
  refine lv_iload_n hx hb dL_refusesAny_319 rfl (lv_at hl 0 rfl) ?_
  refine lv_iconst (v := -1) hx hb dL_refusesAny_320 (by decide +kernel) ?_
  refine cxc (st1 := [.int (-11)]) (vx_runSW (As := [.ref fe, .int (nI 13), .int (nI 2), .int (-1)]) (rest := []) ⟨hx, hb, hml, hown, hts⟩ (CC_waiting_e1 l hlt G hX hR hB (nI 2) (-1) (by decide +kernel)) (vx_cwSW 4 hts gL_refusesAny_L_call rfl rfl rfl (by decide +kernel) ⟨Nat.le_of_ble_eq_true rfl, Nat.le_of_ble_eq_true rfl⟩) (PK.preS hE hJ ⟨P_pre hP, D_al hAl (D_pre hD)⟩) rfl rfl hl.1 rfl (lv_room (Nat.le_of_ble_eq_true rfl)) dL_refusesAny_321 ⟨Nat.le_of_ble_eq_true rfl, Nat.le_of_ble_eq_true rfl⟩) hP hD hS hJ0 hAl rfl (fun WC H locs hX hP hD hS hJ => ?_)
  refine lv_bipush (v := -11) hx hb dL_refusesAny_324 (by decide +kernel) ?_
  refine lv_icmp_ne (tgt := 484) hx hb dL_refusesAny_326 (by decide) (fun h => absurd h (by decide +kernel)) (fun _ => ?_)
  refine lv_aload_n hx hb dL_refusesAny_329 rfl (lv_at hl 1 rfl) ?_
  refine lv_bipush (v := nI 13) hx hb dL_refusesAny_330 (by decide +kernel) ?_
  refine lv_iconst (v := nI 0) hx hb dL_refusesAny_332 (by decide +kernel) ?_
  refine lv_iconst (v := -1) hx hb dL_refusesAny_333 (by decide +kernel) ?_
  refine lv_iload_n hx hb dL_refusesAny_334 rfl (lv_at hl 2 rfl) ?_
  refine lv_isub hx hb dL_refusesAny_335 ?_
  refine tI (y := (-2)) (by decide +kernel) ?_
  refine cxc (st1 := [.int (-12)]) (vx_runSW (As := [.ref fe, .int (nI 13), .int (nI 0), .int (-2)]) (rest := []) ⟨hx, hb, hml, hown, hts⟩ (CC_waiting_e2 l hlt G hX hR hB (nI 0) (-2) (by decide +kernel) (by decide +kernel)) (vx_cwSW 4 hts gL_refusesAny_L_call rfl rfl rfl (by decide +kernel) ⟨Nat.le_of_ble_eq_true rfl, Nat.le_of_ble_eq_true rfl⟩) (PK.preS hE hJ ⟨P_pre hP, D_al hAl (D_pre hD)⟩) rfl rfl hl.1 rfl (lv_room (Nat.le_of_ble_eq_true rfl)) dL_refusesAny_336 ⟨Nat.le_of_ble_eq_true rfl, Nat.le_of_ble_eq_true rfl⟩) hP hD hS hJ0 hAl rfl (fun WC H locs hX hP hD hS hJ => ?_)
  refine lv_bipush (v := -12) hx hb dL_refusesAny_339 (by decide +kernel) ?_
  refine lv_icmp_ne (tgt := 484) hx hb dL_refusesAny_341 (by decide) (fun h => absurd h (by decide +kernel)) (fun _ => ?_)
  refine lv_aload_n hx hb dL_refusesAny_344 rfl (lv_at hl 1 rfl) ?_
  refine lv_bipush (v := nI 14) hx hb dL_refusesAny_345 (by decide +kernel) ?_
  refine lv_iload_n hx hb dL_refusesAny_347 rfl (lv_at hl 0 rfl) ?_
  refine lv_bipush (v := -19) hx hb dL_refusesAny_348 (by decide +kernel) ?_
  refine cxc (st1 := [.int (-11)]) (vx_runSW (As := [.ref fe, .int (nI 14), .int (nI 2), .int (-19)]) (rest := []) ⟨hx, hb, hml, hown, hts⟩ (CC_deck_e1 l hlt G hX hR hB (-19) (nI 2) (by decide +kernel)) (vx_cwSW 4 hts gL_refusesAny_L_call rfl rfl rfl (by decide +kernel) ⟨Nat.le_of_ble_eq_true rfl, Nat.le_of_ble_eq_true rfl⟩) (PK.preS hE hJ ⟨P_pre hP, D_al hAl (D_pre hD)⟩) rfl rfl hl.1 rfl (lv_room (Nat.le_of_ble_eq_true rfl)) dL_refusesAny_350 ⟨Nat.le_of_ble_eq_true rfl, Nat.le_of_ble_eq_true rfl⟩) hP hD hS hJ0 hAl rfl (fun WC H locs hX hP hD hS hJ => ?_)
  refine lv_bipush (v := -11) hx hb dL_refusesAny_353 (by decide +kernel) ?_
  refine lv_icmp_ne (tgt := 484) hx hb dL_refusesAny_355 (by decide) (fun h => absurd h (by decide +kernel)) (fun _ => ?_)
  refine lv_aload_n hx hb dL_refusesAny_358 rfl (lv_at hl 1 rfl) ?_
  refine lv_bipush (v := nI 14) hx hb dL_refusesAny_359 (by decide +kernel) ?_
  refine lv_iconst (v := nI 0) hx hb dL_refusesAny_361 (by decide +kernel) ?_
  refine lv_iload_n hx hb dL_refusesAny_362 rfl (lv_at hl 2 rfl) ?_
  refine lv_if_ne (tgt := 371) hx hb dL_refusesAny_363 (by decide) (fun _ => ?_) (fun h => absurd h (by decide +kernel))
  refine lv_iconst (v := nI 2) hx hb dL_refusesAny_371 (by decide +kernel) ?_
  refine cxc (st1 := [.int (-12)]) (vx_runSW (As := [.ref fe, .int (nI 14), .int (nI 0), .int (nI 2)]) (rest := []) ⟨hx, hb, hml, hown, hts⟩ (CC_deck_e2b l hlt G hX hR hB (nI 2) (nI 0) (by decide +kernel) (by decide +kernel) (by decide +kernel)) (vx_cwSW 4 hts gL_refusesAny_L_call rfl rfl rfl (by decide +kernel) ⟨Nat.le_of_ble_eq_true rfl, Nat.le_of_ble_eq_true rfl⟩) (PK.preS hE hJ ⟨P_pre hP, D_al hAl (D_pre hD)⟩) rfl rfl hl.1 rfl (lv_room (Nat.le_of_ble_eq_true rfl)) dL_refusesAny_372 ⟨Nat.le_of_ble_eq_true rfl, Nat.le_of_ble_eq_true rfl⟩) hP hD hS hJ0 hAl rfl (fun WC H locs hX hP hD hS hJ => ?_)
  refine lv_bipush (v := -12) hx hb dL_refusesAny_375 (by decide +kernel) ?_
  refine lv_icmp_ne (tgt := 484) hx hb dL_refusesAny_377 (by decide) (fun h => absurd h (by decide +kernel)) (fun _ => ?_)
  refine lv_aload_n hx hb dL_refusesAny_380 rfl (lv_at hl 1 rfl) ?_
  refine lv_bipush (v := nI 15) hx hb dL_refusesAny_381 (by decide +kernel) ?_
  refine lv_iload_n hx hb dL_refusesAny_383 rfl (lv_at hl 2 rfl) ?_
  refine lv_if_ne (tgt := 391) hx hb dL_refusesAny_384 (by decide) (fun _ => ?_) (fun h => absurd h (by decide +kernel))
  refine lv_bipush (v := nI 14) hx hb dL_refusesAny_391 (by decide +kernel) ?_
  refine lv_iconst (v := nI 0) hx hb dL_refusesAny_393 (by decide +kernel) ?_
  refine cxc (st1 := [.int (-12)]) (vx_runSW (As := [.ref fe, .int (nI 15), .int (nI 14), .int (nI 0)]) (rest := []) ⟨hx, hb, hml, hown, hts⟩ (CC_count_e1 l hlt G hX hR hB (nI 14) (by decide +kernel) (nI 0)) (vx_cwSW 4 hts gL_refusesAny_L_call rfl rfl rfl (by decide +kernel) ⟨Nat.le_of_ble_eq_true rfl, Nat.le_of_ble_eq_true rfl⟩) (PK.preS hE hJ ⟨P_pre hP, D_al hAl (D_pre hD)⟩) rfl rfl hl.1 rfl (lv_room (Nat.le_of_ble_eq_true rfl)) dL_refusesAny_394 ⟨Nat.le_of_ble_eq_true rfl, Nat.le_of_ble_eq_true rfl⟩) hP hD hS hJ0 hAl rfl (fun WC H locs hX hP hD hS hJ => ?_)
  refine lv_bipush (v := -12) hx hb dL_refusesAny_397 (by decide +kernel) ?_
  refine lv_icmp_ne (tgt := 484) hx hb dL_refusesAny_399 (by decide) (fun h => absurd h (by decide +kernel)) (fun _ => ?_)
  refine lv_aload_n hx hb dL_refusesAny_402 rfl (lv_at hl 1 rfl) ?_
  refine lv_bipush (v := nI 16) hx hb dL_refusesAny_403 (by decide +kernel) ?_
  refine lv_iload_n hx hb dL_refusesAny_405 rfl (lv_at hl 2 rfl) ?_
  refine lv_if_ne (tgt := 413) hx hb dL_refusesAny_406 (by decide) (fun _ => ?_) (fun h => absurd h (by decide +kernel))
  refine lv_bipush (v := nI 24) hx hb dL_refusesAny_413 (by decide +kernel) ?_
  refine lv_iconst (v := nI 0) hx hb dL_refusesAny_415 (by decide +kernel) ?_
  refine cxc (st1 := [.int (-11)]) (vx_runSW (As := [.ref fe, .int (nI 16), .int (nI 24), .int (nI 0)]) (rest := []) ⟨hx, hb, hml, hown, hts⟩ (CC_currentOf_e1 l hlt G hX hR hB (nI 24) (by decide +kernel) (nI 0)) (vx_cwSW 4 hts gL_refusesAny_L_call rfl rfl rfl (by decide +kernel) ⟨Nat.le_of_ble_eq_true rfl, Nat.le_of_ble_eq_true rfl⟩) (PK.preS hE hJ ⟨P_pre hP, D_al hAl (D_pre hD)⟩) rfl rfl hl.1 rfl (lv_room (Nat.le_of_ble_eq_true rfl)) dL_refusesAny_416 ⟨Nat.le_of_ble_eq_true rfl, Nat.le_of_ble_eq_true rfl⟩) hP hD hS hJ0 hAl rfl (fun WC H locs hX hP hD hS hJ => ?_)
  refine lv_bipush (v := -11) hx hb dL_refusesAny_419 (by decide +kernel) ?_
  refine lv_icmp_ne (tgt := 484) hx hb dL_refusesAny_421 (by decide) (fun h => absurd h (by decide +kernel)) (fun _ => ?_)
  refine lv_aload_n hx hb dL_refusesAny_424 rfl (lv_at hl 1 rfl) ?_
  refine lv_bipush (v := nI 17) hx hb dL_refusesAny_425 (by decide +kernel) ?_
  refine lv_iload_n hx hb dL_refusesAny_427 rfl (lv_at hl 2 rfl) ?_
  refine lv_if_ne (tgt := 435) hx hb dL_refusesAny_428 (by decide) (fun _ => ?_) (fun h => absurd h (by decide +kernel))
  refine lv_iconst (v := nI 3) hx hb dL_refusesAny_435 (by decide +kernel) ?_
  refine lv_iconst (v := nI 0) hx hb dL_refusesAny_436 (by decide +kernel) ?_
  refine cxc (st1 := [.int (-11)]) (vx_runSW (As := [.ref fe, .int (nI 17), .int (nI 3), .int (nI 0)]) (rest := []) ⟨hx, hb, hml, hown, hts⟩ (CC_setting_e1 l hlt G hX hR hB (nI 3) (by decide +kernel) (nI 0)) (vx_cwSW 4 hts gL_refusesAny_L_call rfl rfl rfl (by decide +kernel) ⟨Nat.le_of_ble_eq_true rfl, Nat.le_of_ble_eq_true rfl⟩) (PK.preS hE hJ ⟨P_pre hP, D_al hAl (D_pre hD)⟩) rfl rfl hl.1 rfl (lv_room (Nat.le_of_ble_eq_true rfl)) dL_refusesAny_437 ⟨Nat.le_of_ble_eq_true rfl, Nat.le_of_ble_eq_true rfl⟩) hP hD hS hJ0 hAl rfl (fun WC H locs hX hP hD hS hJ => ?_)
  refine lv_bipush (v := -11) hx hb dL_refusesAny_440 (by decide +kernel) ?_
  refine lv_icmp_ne (tgt := 484) hx hb dL_refusesAny_442 (by decide) (fun h => absurd h (by decide +kernel)) (fun _ => ?_)
  refine lv_aload_n hx hb dL_refusesAny_445 rfl (lv_at hl 1 rfl) ?_
  refine lv_bipush (v := nI 18) hx hb dL_refusesAny_446 (by decide +kernel) ?_
  refine lv_iload_n hx hb dL_refusesAny_448 rfl (lv_at hl 0 rfl) ?_
  refine lv_iconst (v := nI 0) hx hb dL_refusesAny_449 (by decide +kernel) ?_
  refine cxc (st1 := [.int (-11)]) (vx_runSW (As := [.ref fe, .int (nI 18), .int (nI 2), .int (nI 0)]) (rest := []) ⟨hx, hb, hml, hown, hts⟩ (CC_ifLoaded_e1 l hlt G hX hR hB (nI 2) (by decide +kernel) (nI 0)) (vx_cwSW 4 hts gL_refusesAny_L_call rfl rfl rfl (by decide +kernel) ⟨Nat.le_of_ble_eq_true rfl, Nat.le_of_ble_eq_true rfl⟩) (PK.preS hE hJ ⟨P_pre hP, D_al hAl (D_pre hD)⟩) rfl rfl hl.1 rfl (lv_room (Nat.le_of_ble_eq_true rfl)) dL_refusesAny_450 ⟨Nat.le_of_ble_eq_true rfl, Nat.le_of_ble_eq_true rfl⟩) hP hD hS hJ0 hAl rfl (fun WC H locs hX hP hD hS hJ => ?_)
  refine lv_bipush (v := -11) hx hb dL_refusesAny_453 (by decide +kernel) ?_
  refine lv_icmp_ne (tgt := 484) hx hb dL_refusesAny_455 (by decide) (fun h => absurd h (by decide +kernel)) (fun _ => ?_)
  refine lv_aload_n hx hb dL_refusesAny_458 rfl (lv_at hl 1 rfl) ?_
  refine lv_bipush (v := nI 19) hx hb dL_refusesAny_459 (by decide +kernel) ?_
  refine lv_iload_n hx hb dL_refusesAny_461 rfl (lv_at hl 2 rfl) ?_
  refine lv_if_ne (tgt := 469) hx hb dL_refusesAny_462 (by decide) (fun _ => ?_) (fun h => absurd h (by decide +kernel))
  refine lv_bipush (v := nI 9) hx hb dL_refusesAny_469 (by decide +kernel) ?_
  refine lv_iconst (v := nI 0) hx hb dL_refusesAny_471 (by decide +kernel) ?_
  refine cxc (st1 := [.int (-12)]) (vx_runSW (As := [.ref fe, .int (nI 19), .int (nI 9), .int (nI 0)]) (rest := []) ⟨hx, hb, hml, hown, hts⟩ (CC_leastList_e1 l hlt G hX hR hB (nI 9) (by decide +kernel) (nI 0)) (vx_cwSW 4 hts gL_refusesAny_L_call rfl rfl rfl (by decide +kernel) ⟨Nat.le_of_ble_eq_true rfl, Nat.le_of_ble_eq_true rfl⟩) (PK.preS hE hJ ⟨P_pre hP, D_al hAl (D_pre hD)⟩) rfl rfl hl.1 rfl (lv_room (Nat.le_of_ble_eq_true rfl)) dL_refusesAny_472 ⟨Nat.le_of_ble_eq_true rfl, Nat.le_of_ble_eq_true rfl⟩) hP hD hS hJ0 hAl rfl (fun WC H locs hX hP hD hS hJ => ?_)
  refine lv_bipush (v := -12) hx hb dL_refusesAny_475 (by decide +kernel) ?_
  refine lv_icmp_ne (tgt := 484) hx hb dL_refusesAny_477 (by decide) (fun h => absurd h (by decide +kernel)) (fun _ => ?_)
  refine lv_iconst (v := nI 1) hx hb dL_refusesAny_480 (by decide +kernel) ?_
  refine lv_goto (tgt := 485) hx hb dL_refusesAny_481 (by decide) ?_
  subst hAe
  exact W.zret hx hb hr rfl (fun t ht hW => ⟨rfl, by rw [ht]; exact ⟨WC, hX, P_pre hP, D_pre hD⟩, hS.F ht⟩) hS.2.2 dL_refusesAny_485

set_option maxHeartbeats 4000000 in
set_option maxRecDepth 100000 in
theorem c_X2_endBehindKind (l : Launch) (G : eG) (ch : Nat) (hc : ch < 1000) : Met l yX2_endBehindKind wsX2_endBehindKind ({ frames := 0, cells := 0, slots := 0, locals := 0 }) (PC [.int (nI ch)] G (fun H => va_P G.1 vwCl [] H)) (PQ (some (.int (ov (ebK ch))))) 0 0 noA := by
  refine ofB (cc := cX2_endBehindKind) (maxL := 1) (ret := (some .int)) (by decide) rfl (Nat.le_of_ble_eq_true rfl) ?_
  intro p e s m below meth c hx hb hr hlocks hml hown hin hts hE hI ls hl
  replace hown : s.vm.findClass RX2 = some m.cls := hown
  have hl : lv_has ls 1 [(0, .int (nI ch))] := hl
  have hP : va_P G.1 vwCl [] s.heap := hI
  skip
  refine lv_iload_n hx hb dX2_endBehindKind_0 rfl (lv_at hl 0 rfl) ?_
  by_cases h97 : ch = 97
  · subst h97
    refine lv_lookup (off := 59) (tgt := 60) hx hb dX2_endBehindKind_1 (by decide +kernel) (by decide +kernel) (by decide) ?_
    have hl : lv_has ls 1 [(0, .int (nI 97))] := hl
    refine lv_iconst (v := nI 1) hx hb dX2_endBehindKind_60 (by decide +kernel) ?_
    refine tS (st' := [.int (ov (ebK 97))]) (congrArg (fun z => [Value.int z]) (rfl)) ?_
    exact W.iret hx hb hr (fun t ht hW => ⟨rfl, ht⟩) (fun _ h => nomatch h) dX2_endBehindKind_61
  by_cases h100 : ch = 100
  · subst h100
    refine lv_lookup (off := 65) (tgt := 66) hx hb dX2_endBehindKind_1 (by decide +kernel) (by decide +kernel) (by decide) ?_
    have hl : lv_has ls 1 [(0, .int (nI 100))] := hl
    refine lv_bipush (v := nI 6) hx hb dX2_endBehindKind_66 (by decide +kernel) ?_
    refine tS (st' := [.int (ov (ebK 100))]) (congrArg (fun z => [Value.int z]) (rfl)) ?_
    exact W.iret hx hb hr (fun t ht hW => ⟨rfl, ht⟩) (fun _ h => nomatch h) dX2_endBehindKind_68
  by_cases h108 : ch = 108
  · subst h108
    refine lv_lookup (off := 61) (tgt := 62) hx hb dX2_endBehindKind_1 (by decide +kernel) (by decide +kernel) (by decide) ?_
    have hl : lv_has ls 1 [(0, .int (nI 108))] := hl
    refine lv_iconst (v := nI 4) hx hb dX2_endBehindKind_62 (by decide +kernel) ?_
    refine tS (st' := [.int (ov (ebK 108))]) (congrArg (fun z => [Value.int z]) (rfl)) ?_
    exact W.iret hx hb hr (fun t ht hW => ⟨rfl, ht⟩) (fun _ h => nomatch h) dX2_endBehindKind_63
  by_cases h117 : ch = 117
  · subst h117
    refine lv_lookup (off := 68) (tgt := 69) hx hb dX2_endBehindKind_1 (by decide +kernel) (by decide +kernel) (by decide) ?_
    have hl : lv_has ls 1 [(0, .int (nI 117))] := hl
    refine lv_bipush (v := nI 10) hx hb dX2_endBehindKind_69 (by decide +kernel) ?_
    refine tS (st' := [.int (ov (ebK 117))]) (congrArg (fun z => [Value.int z]) (rfl)) ?_
    exact W.iret hx hb hr (fun t ht hW => ⟨rfl, ht⟩) (fun _ h => nomatch h) dX2_endBehindKind_71
  by_cases h119 : ch = 119
  · subst h119
    refine lv_lookup (off := 63) (tgt := 64) hx hb dX2_endBehindKind_1 (by decide +kernel) (by decide +kernel) (by decide) ?_
    have hl : lv_has ls 1 [(0, .int (nI 119))] := hl
    refine lv_iconst (v := nI 5) hx hb dX2_endBehindKind_64 (by decide +kernel) ?_
    refine tS (st' := [.int (ov (ebK 119))]) (congrArg (fun z => [Value.int z]) (rfl)) ?_
    exact W.iret hx hb hr (fun t ht hW => ⟨rfl, ht⟩) (fun _ h => nomatch h) dX2_endBehindKind_65
  by_cases h120 : ch = 120
  · subst h120
    refine lv_lookup (off := 71) (tgt := 72) hx hb dX2_endBehindKind_1 (by decide +kernel) (by decide +kernel) (by decide) ?_
    have hl : lv_has ls 1 [(0, .int (nI 120))] := hl
    refine lv_bipush (v := nI 10) hx hb dX2_endBehindKind_72 (by decide +kernel) ?_
    refine tS (st' := [.int (ov (ebK 120))]) (congrArg (fun z => [Value.int z]) (rfl)) ?_
    exact W.iret hx hb hr (fun t ht hW => ⟨rfl, ht⟩) (fun _ h => nomatch h) dX2_endBehindKind_74
  have q97 : ¬ nI ch = nI 97 := fun q => h97 ((nI_eq (by omega) (by omega)).mp q)
  have q100 : ¬ nI ch = nI 100 := fun q => h100 ((nI_eq (by omega) (by omega)).mp q)
  have q108 : ¬ nI ch = nI 108 := fun q => h108 ((nI_eq (by omega) (by omega)).mp q)
  have q117 : ¬ nI ch = nI 117 := fun q => h117 ((nI_eq (by omega) (by omega)).mp q)
  have q119 : ¬ nI ch = nI 119 := fun q => h119 ((nI_eq (by omega) (by omega)).mp q)
  have q120 : ¬ nI ch = nI 120 := fun q => h120 ((nI_eq (by omega) (by omega)).mp q)
  refine lv_lookup (off := 74) (tgt := 75) hx hb dX2_endBehindKind_1 (by decide +kernel) (((lv_osw q97 (by decide +kernel)).trans ((lv_osw q100 (by decide +kernel)).trans ((lv_osw q108 (by decide +kernel)).trans ((lv_osw q117 (by decide +kernel)).trans ((lv_osw q119 (by decide +kernel)).trans (lv_osw q120 (by decide +kernel))))))).trans rfl) (by decide) ?_
  refine lv_iconst (v := -1) hx hb dX2_endBehindKind_75 (by decide +kernel) ?_
  refine tS (st' := [.int (ov (ebK ch))]) (congrArg (fun z => [Value.int z]) (by unfold ebK; rw [if_neg h97, if_neg h100, if_neg h108, if_neg h117, if_neg h119, if_neg h120]; rfl)) ?_
  exact W.iret hx hb hr (fun t ht hW => ⟨rfl, ht⟩) (fun _ h => nomatch h) dX2_endBehindKind_76
set_option maxHeartbeats 4000000 in
set_option maxRecDepth 100000 in
theorem c_X2_endBehindFirstDigit (l : Launch) (G : eG) (ch two : Nat) (hc : ch < 1000) (h2 : two ≤ 10) : Met l yX2_endBehindFirstDigit wsX2_endBehindFirstDigit ({ frames := 1, cells := 0, slots := 0, locals := 22 }) (PC [.int (nI ch), .int (nI two)] G (fun H => va_P G.1 vwCl [] H)) (PQ (some (.int (ov (eb1 ch two))))) 0 0 noA := by
  refine ofB (cc := cX2_endBehindFirstDigit) (maxL := 2) (ret := (some .int)) (by decide) rfl (Nat.le_of_ble_eq_true rfl) ?_
  intro p e s m below meth c hx hb hr hlocks hml hown hin hts hE hI ls hl
  replace hown : s.vm.findClass RX2 = some m.cls := hown
  have hl : lv_has ls 2 [(0, .int (nI ch)), (1, .int (nI two))] := hl
  have hP : va_P G.1 vwCl [] s.heap := hI
  have w_0 := hts (.static yX5_isWithin) (by decide +kernel)
  skip
  refine lv_iload_n hx hb dX2_endBehindFirstDigit_0 rfl (lv_at hl 0 rfl) ?_
  refine lv_bipush (v := nI 49) hx hb dX2_endBehindFirstDigit_1 (by decide +kernel) ?_
  refine icmp_neN (tgt := 9) hx hb (by omega) (by omega) dX2_endBehindFirstDigit_3 (by decide) (fun c3 => ?_) (fun c3 => ?_)
  · skip
    refine lv_iload_n hx hb dX2_endBehindFirstDigit_9 rfl (lv_at hl 0 rfl) ?_
    refine lv_bipush (v := nI 50) hx hb dX2_endBehindFirstDigit_10 (by decide +kernel) ?_
    refine icmp_neN (tgt := 17) hx hb (by omega) (by omega) dX2_endBehindFirstDigit_12 (by decide) (fun c12 => ?_) (fun c12 => ?_)
    · skip
      refine cutL (σ := Int32) (n := 2) (pc1 := 34) (fun r => r = ov (eb1 ch two)) (fun r => [(0, .int (nI ch)), (1, .int (nI two))]) (fun r => [.int r]) ?_ (fun J34 => ?_)
      · rintro r ls hI hl
        replace hI : r = ov (eb1 ch two) := hI
        subst hI
        have hl : lv_has ls 2 [(0, .int (nI ch)), (1, .int (nI two))] := hl
        refine tS (st' := [.int (ov (eb1 ch two))]) rfl ?_
        exact W.iret hx hb hr (fun t ht hW => ⟨rfl, ht⟩) (fun _ h => nomatch h) dX2_endBehindFirstDigit_34
      · skip
        refine lv_iload_n hx hb dX2_endBehindFirstDigit_17 rfl (lv_at hl 0 rfl) ?_
        refine lv_bipush (v := nI 51) hx hb dX2_endBehindFirstDigit_18 (by decide +kernel) ?_
        refine lv_bipush (v := nI 57) hx hb dX2_endBehindFirstDigit_20 (by decide +kernel) ?_
        refine pcall (st1 := [.int (b2 ((nI 51) ≤ (nI ch) ∧ (nI ch) ≤ (nI 57)))]) (va_runSN (As := [.int (nI ch), .int (nI 51), .int (nI 57)]) (rest := []) ⟨hx, hb, hml, hown, hts⟩ (c_X5_isWithin l G (nI ch) (nI 51) (nI 57)) ⟨va_cnB 3 hts gX2_endBehindFirstDigit_X5_isWithin_n41 rfl rfl rfl (hE.2 (RX2, 41, yX5_isWithin) (by decide +kernel)) (hts (.initialized RX5) (by decide +kernel)) (by decide +kernel) ⟨Nat.le_of_ble_eq_true rfl, Nat.le_of_ble_eq_true rfl⟩, w_0, trivial⟩ (PC.preS hE P_nil) rfl rfl hl.1 rfl (lv_room (Nat.le_of_ble_eq_true rfl)) dX2_endBehindFirstDigit_22 ⟨Nat.zero_le _, Nat.zero_le _⟩) rfl ?_
        refine lv_if_eq (tgt := 33) hx hb dX2_endBehindFirstDigit_25 (by decide) (fun c25 => ?_) (fun c25 => ?_)
        · skip
          replace c25 : ¬(51 ≤ ch ∧ ch ≤ 57) := fun q => b2_0.mp c25 ((inN_iff (by omega) (by omega) (by omega)).mpr q)
          refine lv_iconst (v := -1) hx hb dX2_endBehindFirstDigit_33 (by decide +kernel) ?_
          exact J34 (-1) _ (by unfold eb1; rw [if_neg c3, if_neg c12]; first | (rw [if_pos c25]; rfl) | (rw [if_neg c25]; rfl)) (lv_sub hl [0, 1] rfl)
        · skip
          replace c25 : 51 ≤ ch ∧ ch ≤ 57 := (inN_iff (by omega) (by omega) (by omega)).mp (b2_1.mp c25)
          refine lv_bipush (v := nI 10) hx hb dX2_endBehindFirstDigit_28 (by decide +kernel) ?_
          refine lv_goto (tgt := 34) hx hb dX2_endBehindFirstDigit_30 (by decide) ?_
          exact J34 (nI 10) _ (by unfold eb1; rw [if_neg c3, if_neg c12]; first | (rw [if_pos c25]; rfl) | (rw [if_neg c25]; rfl)) (lv_sub hl [0, 1] rfl)
    · skip
      refine lv_iload_n hx hb dX2_endBehindFirstDigit_15 rfl (lv_at hl 1 rfl) ?_
      refine tS (st' := [.int (ov (eb1 ch two))]) (congrArg (fun z => [Value.int z]) (by unfold eb1; rw [if_neg c3, if_pos c12]; rfl)) ?_
      exact W.iret hx hb hr (fun t ht hW => ⟨rfl, ht⟩) (fun _ h => nomatch h) dX2_endBehindFirstDigit_16
  · skip
    refine lv_bipush (v := nI 7) hx hb dX2_endBehindFirstDigit_6 (by decide +kernel) ?_
    refine tS (st' := [.int (ov (eb1 ch two))]) (congrArg (fun z => [Value.int z]) (by unfold eb1; rw [if_pos c3]; rfl)) ?_
    exact W.iret hx hb hr (fun t ht hW => ⟨rfl, ht⟩) (fun _ h => nomatch h) dX2_endBehindFirstDigit_8
set_option maxHeartbeats 4000000 in
set_option maxRecDepth 100000 in
theorem c_X2_endBehindSecondDigit (l : Launch) (G : eG) (ch u : Nat) (hc : ch < 1000) (h2 : u < 1000) : Met l yX2_endBehindSecondDigit wsX2_endBehindSecondDigit ({ frames := 1, cells := 0, slots := 0, locals := 22 }) (PC [.int (nI ch), .int (nI u)] G (fun H => va_P G.1 vwCl [] H)) (PQ (some (.int (ov (eb2 ch u))))) 0 0 noA := by
  refine ofB (cc := cX2_endBehindSecondDigit) (maxL := 2) (ret := (some .int)) (by decide) rfl (Nat.le_of_ble_eq_true rfl) ?_
  intro p e s m below meth c hx hb hr hlocks hml hown hin hts hE hI ls hl
  replace hown : s.vm.findClass RX2 = some m.cls := hown
  have hl : lv_has ls 2 [(0, .int (nI ch)), (1, .int (nI u))] := hl
  have hP : va_P G.1 vwCl [] s.heap := hI
  have w_0 := hts (.static yX5_isWithin) (by decide +kernel)
  skip
  refine lv_iload_n hx hb dX2_endBehindSecondDigit_0 rfl (lv_at hl 0 rfl) ?_
  refine lv_bipush (v := nI 48) hx hb dX2_endBehindSecondDigit_1 (by decide +kernel) ?_
  refine lv_iload_n hx hb dX2_endBehindSecondDigit_3 rfl (lv_at hl 1 rfl) ?_
  refine pcall (st1 := [.int (b2 ((nI 48) ≤ (nI ch) ∧ (nI ch) ≤ (nI u)))]) (va_runSN (As := [.int (nI ch), .int (nI 48), .int (nI u)]) (rest := []) ⟨hx, hb, hml, hown, hts⟩ (c_X5_isWithin l G (nI ch) (nI 48) (nI u)) ⟨va_cnB 3 hts gX2_endBehindSecondDigit_X5_isWithin_n41 rfl rfl rfl (hE.2 (RX2, 41, yX5_isWithin) (by decide +kernel)) (hts (.initialized RX5) (by decide +kernel)) (by decide +kernel) ⟨Nat.le_of_ble_eq_true rfl, Nat.le_of_ble_eq_true rfl⟩, w_0, trivial⟩ (PC.preS hE P_nil) rfl rfl hl.1 rfl (lv_room (Nat.le_of_ble_eq_true rfl)) dX2_endBehindSecondDigit_4 ⟨Nat.zero_le _, Nat.zero_le _⟩) rfl ?_
  refine lv_if_eq (tgt := 13) hx hb dX2_endBehindSecondDigit_7 (by decide) (fun c7 => ?_) (fun c7 => ?_)
  · skip
    replace c7 : ¬(48 ≤ ch ∧ ch ≤ u) := fun q => b2_0.mp c7 ((inN_iff (by omega) (by omega) (by omega)).mpr q)
    refine cutL (σ := Int32) (n := 2) (pc1 := 24) (fun r => r = ov (eb2 ch u)) (fun r => [(0, .int (nI ch)), (1, .int (nI u))]) (fun r => [.int r]) ?_ (fun J24 => ?_)
    · rintro r ls hI hl
      replace hI : r = ov (eb2 ch u) := hI
      subst hI
      have hl : lv_has ls 2 [(0, .int (nI ch)), (1, .int (nI u))] := hl
      refine tS (st' := [.int (ov (eb2 ch u))]) rfl ?_
      exact W.iret hx hb hr (fun t ht hW => ⟨rfl, ht⟩) (fun _ h => nomatch h) dX2_endBehindSecondDigit_24
    · skip
      refine lv_iload_n hx hb dX2_endBehindSecondDigit_13 rfl (lv_at hl 0 rfl) ?_
      refine lv_bipush (v := nI 59) hx hb dX2_endBehindSecondDigit_14 (by decide +kernel) ?_
      refine icmp_neN (tgt := 23) hx hb (by omega) (by omega) dX2_endBehindSecondDigit_16 (by decide) (fun c16 => ?_) (fun c16 => ?_)
      · skip
        refine lv_iconst (v := -1) hx hb dX2_endBehindSecondDigit_23 (by decide +kernel) ?_
        exact J24 (-1) _ (by unfold eb2; rw [if_neg c7]; first | (rw [if_pos c16]; rfl) | (rw [if_neg c16]; rfl)) (lv_sub hl [0, 1] rfl)
      · skip
        refine lv_iconst (v := nI 0) hx hb dX2_endBehindSecondDigit_19 (by decide +kernel) ?_
        refine lv_goto (tgt := 24) hx hb dX2_endBehindSecondDigit_20 (by decide) ?_
        exact J24 (nI 0) _ (by unfold eb2; rw [if_neg c7]; first | (rw [if_pos c16]; rfl) | (rw [if_neg c16]; rfl)) (lv_sub hl [0, 1] rfl)
  · skip
    replace c7 : 48 ≤ ch ∧ ch ≤ u := (inN_iff (by omega) (by omega) (by omega)).mp (b2_1.mp c7)
    refine lv_bipush (v := nI 10) hx hb dX2_endBehindSecondDigit_10 (by decide +kernel) ?_
    refine tS (st' := [.int (ov (eb2 ch u))]) (congrArg (fun z => [Value.int z]) (by unfold eb2; rw [if_pos c7]; rfl)) ?_
    exact W.iret hx hb hr (fun t ht hW => ⟨rfl, ht⟩) (fun _ h => nomatch h) dX2_endBehindSecondDigit_12
set_option maxHeartbeats 4000000 in
set_option maxRecDepth 100000 in
theorem c_X2_endBehind (l : Launch) (G : eG) (en : Option Nat) (ch : Nat) (he : eOk en) (hc : ch < 1000) : Met l yX2_endBehind wsX2_endBehind ({ frames := 2, cells := 0, slots := 0, locals := 43 }) (PC [.int (ov en), .int (nI ch)] G (fun H => va_P G.1 vwCl [] H)) (PQ (some (.int (ov (ebF en ch))))) 0 0 noA := by
  refine ofB (cc := cX2_endBehind) (maxL := 2) (ret := (some .int)) (by decide) rfl (Nat.le_of_ble_eq_true rfl) ?_
  intro p e s m below meth c hx hb hr hlocks hml hown hin hts hE hI ls hl
  replace hown : s.vm.findClass RX2 = some m.cls := hown
  have hl : lv_has ls 2 [(0, .int (ov en)), (1, .int (nI ch))] := hl
  have hP : va_P G.1 vwCl [] s.heap := hI
  have w_0 := hts (.static yX5_isWithin) (by decide +kernel)
  skip
  refine lv_iload_n hx hb dX2_endBehind_0 rfl (lv_at hl 0 rfl) ?_
  rcases e_cases he with rfl | rfl | rfl | rfl | rfl | rfl | rfl | rfl | rfl | rfl | rfl | rfl
  · refine lv_tableIn (x := -1) (off := 59) (tgt := 60) hx hb dX2_endBehind_1 (by decide +kernel) (by decide +kernel) (by decide +kernel) (by decide) ?_
    have hl : lv_has ls 2 [(0, .int (ov none)), (1, .int (nI ch))] := hl
    refine lv_iconst (v := -1) hx hb dX2_endBehind_60 (by decide +kernel) ?_
    refine tS (st' := [.int (ov (ebF none ch))]) (congrArg (fun z => [Value.int z]) (rfl)) ?_
    exact W.iret hx hb hr (fun t ht hW => ⟨rfl, ht⟩) (fun _ h => nomatch h) dX2_endBehind_61
  · refine lv_tableIn (x := nI 0) (off := 61) (tgt := 62) hx hb dX2_endBehind_1 (by decide +kernel) (by decide +kernel) (by decide +kernel) (by decide) ?_
    have hl : lv_has ls 2 [(0, .int (ov (some 0))), (1, .int (nI ch))] := hl
    refine lv_iload_n hx hb dX2_endBehind_62 rfl (lv_at hl 1 rfl) ?_
    refine pcall (st1 := [.int (ov (ebK ch))]) (va_runS (As := [.int (nI ch)]) (rest := []) ⟨hx, hb, hml, hown, hts⟩ (c_X2_endBehindKind l G ch (by omega)) (va_cwS 1 hts gX2_endBehind_X2_endBehindKind rfl rfl rfl (by decide +kernel) ⟨Nat.le_of_ble_eq_true rfl, Nat.le_of_ble_eq_true rfl⟩) (PC.preS hE P_nil) rfl rfl hl.1 rfl (lv_room (Nat.le_of_ble_eq_true rfl)) dX2_endBehind_63 ⟨Nat.zero_le _, Nat.zero_le _⟩) rfl ?_
    refine tS (st' := [.int (ov (ebF (some 0) ch))]) (congrArg (fun z => [Value.int z]) (rfl)) ?_
    exact W.iret hx hb hr (fun t ht hW => ⟨rfl, ht⟩) (fun _ h => nomatch h) dX2_endBehind_66
  · refine lv_tableIn (x := nI 1) (off := 66) (tgt := 67) hx hb dX2_endBehind_1 (by decide +kernel) (by decide +kernel) (by decide +kernel) (by decide) ?_
    have hl : lv_has ls 2 [(0, .int (ov (some 1))), (1, .int (nI ch))] := hl
    refine cutL (σ := Int32) (n := 2) (pc1 := 83) (fun r => r = ov (ebF (some 1) ch)) (fun r => [(0, .int (ov (some 1))), (1, .int (nI ch))]) (fun r => [.int r]) ?_ (fun J83 => ?_)
    · rintro r ls hI hl
      replace hI : r = ov (ebF (some 1) ch) := hI
      subst hI
      have hl : lv_has ls 2 [(0, .int (ov (some 1))), (1, .int (nI ch))] := hl
      refine tS (st' := [.int (ov (ebF (some 1) ch))]) rfl ?_
      exact W.iret hx hb hr (fun t ht hW => ⟨rfl, ht⟩) (fun _ h => nomatch h) dX2_endBehind_83
    · skip
      refine lv_iload_n hx hb dX2_endBehind_67 rfl (lv_at hl 1 rfl) ?_
      refine lv_bipush (v := nI 48) hx hb dX2_endBehind_68 (by decide +kernel) ?_
      refine lv_bipush (v := nI 49) hx hb dX2_endBehind_70 (by decide +kernel) ?_
      refine pcall (st1 := [.int (b2 ((nI 48) ≤ (nI ch) ∧ (nI ch) ≤ (nI 49)))]) (va_runSN (As := [.int (nI ch), .int (nI 48), .int (nI 49)]) (rest := []) ⟨hx, hb, hml, hown, hts⟩ (c_X5_isWithin l G (nI ch) (nI 48) (nI 49)) ⟨va_cnB 3 hts gX2_endBehind_X5_isWithin_n41 rfl rfl rfl (hE.2 (RX2, 41, yX5_isWithin) (by decide +kernel)) (hts (.initialized RX5) (by decide +kernel)) (by decide +kernel) ⟨Nat.le_of_ble_eq_true rfl, Nat.le_of_ble_eq_true rfl⟩, w_0, trivial⟩ (PC.preS hE P_nil) rfl rfl hl.1 rfl (lv_room (Nat.le_of_ble_eq_true rfl)) dX2_endBehind_72 ⟨Nat.zero_le _, Nat.zero_le _⟩) rfl ?_
      refine lv_if_eq (tgt := 82) hx hb dX2_endBehind_75 (by decide) (fun c75 => ?_) (fun c75 => ?_)
      · skip
        replace c75 : ¬(48 ≤ ch ∧ ch ≤ 49) := fun q => b2_0.mp c75 ((inN_iff (by omega) (by omega) (by omega)).mpr q)
        refine lv_iconst (v := -1) hx hb dX2_endBehind_82 (by decide +kernel) ?_
        exact J83 (-1) _ (by show _ = ov (if _ then _ else _); first | (rw [if_pos c75]; rfl) | (rw [if_neg c75]; rfl)) (lv_sub hl [0, 1] rfl)
      · skip
        replace c75 : 48 ≤ ch ∧ ch ≤ 49 := (inN_iff (by omega) (by omega) (by omega)).mp (b2_1.mp c75)
        refine lv_iconst (v := nI 2) hx hb dX2_endBehind_78 (by decide +kernel) ?_
        refine lv_goto (tgt := 83) hx hb dX2_endBehind_79 (by decide) ?_
        exact J83 (nI 2) _ (by show _ = ov (if _ then _ else _); first | (rw [if_pos c75]; rfl) | (rw [if_neg c75]; rfl)) (lv_sub hl [0, 1] rfl)
  · refine lv_tableIn (x := nI 2) (off := 83) (tgt := 84) hx hb dX2_endBehind_1 (by decide +kernel) (by decide +kernel) (by decide +kernel) (by decide) ?_
    have hl : lv_has ls 2 [(0, .int (ov (some 2))), (1, .int (nI ch))] := hl
    refine cutL (σ := Int32) (n := 2) (pc1 := 95) (fun r => r = ov (ebF (some 2) ch)) (fun r => [(0, .int (ov (some 2))), (1, .int (nI ch))]) (fun r => [.int r]) ?_ (fun J95 => ?_)
    · rintro r ls hI hl
      replace hI : r = ov (ebF (some 2) ch) := hI
      subst hI
      have hl : lv_has ls 2 [(0, .int (ov (some 2))), (1, .int (nI ch))] := hl
      refine tS (st' := [.int (ov (ebF (some 2) ch))]) rfl ?_
      exact W.iret hx hb hr (fun t ht hW => ⟨rfl, ht⟩) (fun _ h => nomatch h) dX2_endBehind_95
    · skip
      refine lv_iload_n hx hb dX2_endBehind_84 rfl (lv_at hl 1 rfl) ?_
      refine lv_bipush (v := nI 58) hx hb dX2_endBehind_85 (by decide +kernel) ?_
      refine icmp_neN (tgt := 94) hx hb (by omega) (by omega) dX2_endBehind_87 (by decide) (fun c87 => ?_) (fun c87 => ?_)
      · skip
        refine lv_iconst (v := -1) hx hb dX2_endBehind_94 (by decide +kernel) ?_
        exact J95 (-1) _ (by show _ = ov (if _ then _ else _); first | (rw [if_pos c87]; rfl) | (rw [if_neg c87]; rfl)) (lv_sub hl [0, 1] rfl)
      · skip
        refine lv_iconst (v := nI 3) hx hb dX2_endBehind_90 (by decide +kernel) ?_
        refine lv_goto (tgt := 95) hx hb dX2_endBehind_91 (by decide) ?_
        exact J95 (nI 3) _ (by show _ = ov (if _ then _ else _); first | (rw [if_pos c87]; rfl) | (rw [if_neg c87]; rfl)) (lv_sub hl [0, 1] rfl)
  · refine lv_tableIn (x := nI 3) (off := 95) (tgt := 96) hx hb dX2_endBehind_1 (by decide +kernel) (by decide +kernel) (by decide +kernel) (by decide) ?_
    have hl : lv_has ls 2 [(0, .int (ov (some 3))), (1, .int (nI ch))] := hl
    refine lv_iload_n hx hb dX2_endBehind_96 rfl (lv_at hl 1 rfl) ?_
    refine lv_bipush (v := nI 8) hx hb dX2_endBehind_97 (by decide +kernel) ?_
    refine pcall (st1 := [.int (ov (eb1 ch 8))]) (va_runS (As := [.int (nI ch), .int (nI 8)]) (rest := []) ⟨hx, hb, hml, hown, hts⟩ (c_X2_endBehindFirstDigit l G ch 8 (by omega) (by omega)) (va_cwS 2 hts gX2_endBehind_X2_endBehindFirstDigit rfl rfl rfl (by decide +kernel) ⟨Nat.le_of_ble_eq_true rfl, Nat.le_of_ble_eq_true rfl⟩) (PC.preS hE P_nil) rfl rfl hl.1 rfl (lv_room (Nat.le_of_ble_eq_true rfl)) dX2_endBehind_99 ⟨Nat.zero_le _, Nat.zero_le _⟩) rfl ?_
    refine tS (st' := [.int (ov (ebF (some 3) ch))]) (congrArg (fun z => [Value.int z]) (rfl)) ?_
    exact W.iret hx hb hr (fun t ht hW => ⟨rfl, ht⟩) (fun _ h => nomatch h) dX2_endBehind_102
  · refine lv_tableIn (x := nI 4) (off := 102) (tgt := 103) hx hb dX2_endBehind_1 (by decide +kernel) (by decide +kernel) (by decide +kernel) (by decide) ?_
    have hl : lv_has ls 2 [(0, .int (ov (some 4))), (1, .int (nI ch))] := hl
    refine cutL (σ := Int32) (n := 2) (pc1 := 120) (fun r => r = ov (ebF (some 4) ch)) (fun r => [(0, .int (ov (some 4))), (1, .int (nI ch))]) (fun r => [.int r]) ?_ (fun J120 => ?_)
    · rintro r ls hI hl
      replace hI : r = ov (ebF (some 4) ch) := hI
      subst hI
      have hl : lv_has ls 2 [(0, .int (ov (some 4))), (1, .int (nI ch))] := hl
      refine tS (st' := [.int (ov (ebF (some 4) ch))]) rfl ?_
      exact W.iret hx hb hr (fun t ht hW => ⟨rfl, ht⟩) (fun _ h => nomatch h) dX2_endBehind_120
    · skip
      refine lv_iload_n hx hb dX2_endBehind_103 rfl (lv_at hl 1 rfl) ?_
      refine lv_bipush (v := nI 48) hx hb dX2_endBehind_104 (by decide +kernel) ?_
      refine lv_bipush (v := nI 49) hx hb dX2_endBehind_106 (by decide +kernel) ?_
      refine pcall (st1 := [.int (b2 ((nI 48) ≤ (nI ch) ∧ (nI ch) ≤ (nI 49)))]) (va_runSN (As := [.int (nI ch), .int (nI 48), .int (nI 49)]) (rest := []) ⟨hx, hb, hml, hown, hts⟩ (c_X5_isWithin l G (nI ch) (nI 48) (nI 49)) ⟨va_cnB 3 hts gX2_endBehind_X5_isWithin_n41 rfl rfl rfl (hE.2 (RX2, 41, yX5_isWithin) (by decide +kernel)) (hts (.initialized RX5) (by decide +kernel)) (by decide +kernel) ⟨Nat.le_of_ble_eq_true rfl, Nat.le_of_ble_eq_true rfl⟩, w_0, trivial⟩ (PC.preS hE P_nil) rfl rfl hl.1 rfl (lv_room (Nat.le_of_ble_eq_true rfl)) dX2_endBehind_108 ⟨Nat.zero_le _, Nat.zero_le _⟩) rfl ?_
      refine lv_if_eq (tgt := 119) hx hb dX2_endBehind_111 (by decide) (fun c111 => ?_) (fun c111 => ?_)
      · skip
        replace c111 : ¬(48 ≤ ch ∧ ch ≤ 49) := fun q => b2_0.mp c111 ((inN_iff (by omega) (by omega) (by omega)).mpr q)
        refine lv_iconst (v := -1) hx hb dX2_endBehind_119 (by decide +kernel) ?_
        exact J120 (-1) _ (by show _ = ov (if _ then _ else _); first | (rw [if_pos c111]; rfl) | (rw [if_neg c111]; rfl)) (lv_sub hl [0, 1] rfl)
      · skip
        replace c111 : 48 ≤ ch ∧ ch ≤ 49 := (inN_iff (by omega) (by omega) (by omega)).mp (b2_1.mp c111)
        refine lv_bipush (v := nI 10) hx hb dX2_endBehind_114 (by decide +kernel) ?_
        refine lv_goto (tgt := 120) hx hb dX2_endBehind_116 (by decide) ?_
        exact J120 (nI 10) _ (by show _ = ov (if _ then _ else _); first | (rw [if_pos c111]; rfl) | (rw [if_neg c111]; rfl)) (lv_sub hl [0, 1] rfl)
  · refine lv_tableIn (x := nI 5) (off := 120) (tgt := 121) hx hb dX2_endBehind_1 (by decide +kernel) (by decide +kernel) (by decide +kernel) (by decide) ?_
    have hl : lv_has ls 2 [(0, .int (ov (some 5))), (1, .int (nI ch))] := hl
    refine lv_iload_n hx hb dX2_endBehind_121 rfl (lv_at hl 1 rfl) ?_
    refine lv_bipush (v := nI 9) hx hb dX2_endBehind_122 (by decide +kernel) ?_
    refine pcall (st1 := [.int (ov (eb1 ch 9))]) (va_runS (As := [.int (nI ch), .int (nI 9)]) (rest := []) ⟨hx, hb, hml, hown, hts⟩ (c_X2_endBehindFirstDigit l G ch 9 (by omega) (by omega)) (va_cwS 2 hts gX2_endBehind_X2_endBehindFirstDigit rfl rfl rfl (by decide +kernel) ⟨Nat.le_of_ble_eq_true rfl, Nat.le_of_ble_eq_true rfl⟩) (PC.preS hE P_nil) rfl rfl hl.1 rfl (lv_room (Nat.le_of_ble_eq_true rfl)) dX2_endBehind_124 ⟨Nat.zero_le _, Nat.zero_le _⟩) rfl ?_
    refine tS (st' := [.int (ov (ebF (some 5) ch))]) (congrArg (fun z => [Value.int z]) (rfl)) ?_
    exact W.iret hx hb hr (fun t ht hW => ⟨rfl, ht⟩) (fun _ h => nomatch h) dX2_endBehind_127
  · refine lv_tableIn (x := nI 6) (off := 127) (tgt := 128) hx hb dX2_endBehind_1 (by decide +kernel) (by decide +kernel) (by decide +kernel) (by decide) ?_
    have hl : lv_has ls 2 [(0, .int (ov (some 6))), (1, .int (nI ch))] := hl
    refine cutL (σ := Int32) (n := 2) (pc1 := 145) (fun r => r = ov (ebF (some 6) ch)) (fun r => [(0, .int (ov (some 6))), (1, .int (nI ch))]) (fun r => [.int r]) ?_ (fun J145 => ?_)
    · rintro r ls hI hl
      replace hI : r = ov (ebF (some 6) ch) := hI
      subst hI
      have hl : lv_has ls 2 [(0, .int (ov (some 6))), (1, .int (nI ch))] := hl
      refine tS (st' := [.int (ov (ebF (some 6) ch))]) rfl ?_
      exact W.iret hx hb hr (fun t ht hW => ⟨rfl, ht⟩) (fun _ h => nomatch h) dX2_endBehind_145
    · skip
      refine lv_iload_n hx hb dX2_endBehind_128 rfl (lv_at hl 1 rfl) ?_
      refine lv_bipush (v := nI 49) hx hb dX2_endBehind_129 (by decide +kernel) ?_
      refine lv_bipush (v := nI 53) hx hb dX2_endBehind_131 (by decide +kernel) ?_
      refine pcall (st1 := [.int (b2 ((nI 49) ≤ (nI ch) ∧ (nI ch) ≤ (nI 53)))]) (va_runSN (As := [.int (nI ch), .int (nI 49), .int (nI 53)]) (rest := []) ⟨hx, hb, hml, hown, hts⟩ (c_X5_isWithin l G (nI ch) (nI 49) (nI 53)) ⟨va_cnB 3 hts gX2_endBehind_X5_isWithin_n41 rfl rfl rfl (hE.2 (RX2, 41, yX5_isWithin) (by decide +kernel)) (hts (.initialized RX5) (by decide +kernel)) (by decide +kernel) ⟨Nat.le_of_ble_eq_true rfl, Nat.le_of_ble_eq_true rfl⟩, w_0, trivial⟩ (PC.preS hE P_nil) rfl rfl hl.1 rfl (lv_room (Nat.le_of_ble_eq_true rfl)) dX2_endBehind_133 ⟨Nat.zero_le _, Nat.zero_le _⟩) rfl ?_
      refine lv_if_eq (tgt := 144) hx hb dX2_endBehind_136 (by decide) (fun c136 => ?_) (fun c136 => ?_)
      · skip
        replace c136 : ¬(49 ≤ ch ∧ ch ≤ 53) := fun q => b2_0.mp c136 ((inN_iff (by omega) (by omega) (by omega)).mpr q)
        refine lv_iconst (v := -1) hx hb dX2_endBehind_144 (by decide +kernel) ?_
        exact J145 (-1) _ (by show _ = ov (if _ then _ else _); first | (rw [if_pos c136]; rfl) | (rw [if_neg c136]; rfl)) (lv_sub hl [0, 1] rfl)
      · skip
        replace c136 : 49 ≤ ch ∧ ch ≤ 53 := (inN_iff (by omega) (by omega) (by omega)).mp (b2_1.mp c136)
        refine lv_bipush (v := nI 10) hx hb dX2_endBehind_139 (by decide +kernel) ?_
        refine lv_goto (tgt := 145) hx hb dX2_endBehind_141 (by decide) ?_
        exact J145 (nI 10) _ (by show _ = ov (if _ then _ else _); first | (rw [if_pos c136]; rfl) | (rw [if_neg c136]; rfl)) (lv_sub hl [0, 1] rfl)
  · refine lv_tableIn (x := nI 7) (off := 145) (tgt := 146) hx hb dX2_endBehind_1 (by decide +kernel) (by decide +kernel) (by decide +kernel) (by decide) ?_
    have hl : lv_has ls 2 [(0, .int (ov (some 7))), (1, .int (nI ch))] := hl
    refine lv_iload_n hx hb dX2_endBehind_146 rfl (lv_at hl 1 rfl) ?_
    refine lv_bipush (v := nI 57) hx hb dX2_endBehind_147 (by decide +kernel) ?_
    refine pcall (st1 := [.int (ov (eb2 ch 57))]) (va_runS (As := [.int (nI ch), .int (nI 57)]) (rest := []) ⟨hx, hb, hml, hown, hts⟩ (c_X2_endBehindSecondDigit l G ch 57 (by omega) (by omega)) (va_cwS 2 hts gX2_endBehind_X2_endBehindSecondDigit rfl rfl rfl (by decide +kernel) ⟨Nat.le_of_ble_eq_true rfl, Nat.le_of_ble_eq_true rfl⟩) (PC.preS hE P_nil) rfl rfl hl.1 rfl (lv_room (Nat.le_of_ble_eq_true rfl)) dX2_endBehind_149 ⟨Nat.zero_le _, Nat.zero_le _⟩) rfl ?_
    refine tS (st' := [.int (ov (ebF (some 7) ch))]) (congrArg (fun z => [Value.int z]) (rfl)) ?_
    exact W.iret hx hb hr (fun t ht hW => ⟨rfl, ht⟩) (fun _ h => nomatch h) dX2_endBehind_152
  · refine lv_tableIn (x := nI 8) (off := 152) (tgt := 153) hx hb dX2_endBehind_1 (by decide +kernel) (by decide +kernel) (by decide +kernel) (by decide) ?_
    have hl : lv_has ls 2 [(0, .int (ov (some 8))), (1, .int (nI ch))] := hl
    refine lv_iload_n hx hb dX2_endBehind_153 rfl (lv_at hl 1 rfl) ?_
    refine lv_bipush (v := nI 48) hx hb dX2_endBehind_154 (by decide +kernel) ?_
    refine pcall (st1 := [.int (ov (eb2 ch 48))]) (va_runS (As := [.int (nI ch), .int (nI 48)]) (rest := []) ⟨hx, hb, hml, hown, hts⟩ (c_X2_endBehindSecondDigit l G ch 48 (by omega) (by omega)) (va_cwS 2 hts gX2_endBehind_X2_endBehindSecondDigit rfl rfl rfl (by decide +kernel) ⟨Nat.le_of_ble_eq_true rfl, Nat.le_of_ble_eq_true rfl⟩) (PC.preS hE P_nil) rfl rfl hl.1 rfl (lv_room (Nat.le_of_ble_eq_true rfl)) dX2_endBehind_156 ⟨Nat.zero_le _, Nat.zero_le _⟩) rfl ?_
    refine tS (st' := [.int (ov (ebF (some 8) ch))]) (congrArg (fun z => [Value.int z]) (rfl)) ?_
    exact W.iret hx hb hr (fun t ht hW => ⟨rfl, ht⟩) (fun _ h => nomatch h) dX2_endBehind_159
  · refine lv_tableIn (x := nI 9) (off := 159) (tgt := 160) hx hb dX2_endBehind_1 (by decide +kernel) (by decide +kernel) (by decide +kernel) (by decide) ?_
    have hl : lv_has ls 2 [(0, .int (ov (some 9))), (1, .int (nI ch))] := hl
    refine lv_iload_n hx hb dX2_endBehind_160 rfl (lv_at hl 1 rfl) ?_
    refine lv_bipush (v := nI 52) hx hb dX2_endBehind_161 (by decide +kernel) ?_
    refine pcall (st1 := [.int (ov (eb2 ch 52))]) (va_runS (As := [.int (nI ch), .int (nI 52)]) (rest := []) ⟨hx, hb, hml, hown, hts⟩ (c_X2_endBehindSecondDigit l G ch 52 (by omega) (by omega)) (va_cwS 2 hts gX2_endBehind_X2_endBehindSecondDigit rfl rfl rfl (by decide +kernel) ⟨Nat.le_of_ble_eq_true rfl, Nat.le_of_ble_eq_true rfl⟩) (PC.preS hE P_nil) rfl rfl hl.1 rfl (lv_room (Nat.le_of_ble_eq_true rfl)) dX2_endBehind_163 ⟨Nat.zero_le _, Nat.zero_le _⟩) rfl ?_
    refine tS (st' := [.int (ov (ebF (some 9) ch))]) (congrArg (fun z => [Value.int z]) (rfl)) ?_
    exact W.iret hx hb hr (fun t ht hW => ⟨rfl, ht⟩) (fun _ h => nomatch h) dX2_endBehind_166
  · refine lv_tableOut (x := nI 10) (tgt := 167) hx hb dX2_endBehind_1 (by decide +kernel) (by decide) ?_
    have hl : lv_has ls 2 [(0, .int (ov (some 10))), (1, .int (nI ch))] := hl
    refine cutL (σ := Int32) (n := 2) (pc1 := 178) (fun r => r = ov (ebF (some 10) ch)) (fun r => [(0, .int (ov (some 10))), (1, .int (nI ch))]) (fun r => [.int r]) ?_ (fun J178 => ?_)
    · rintro r ls hI hl
      replace hI : r = ov (ebF (some 10) ch) := hI
      subst hI
      have hl : lv_has ls 2 [(0, .int (ov (some 10))), (1, .int (nI ch))] := hl
      refine tS (st' := [.int (ov (ebF (some 10) ch))]) rfl ?_
      exact W.iret hx hb hr (fun t ht hW => ⟨rfl, ht⟩) (fun _ h => nomatch h) dX2_endBehind_178
    · skip
      refine lv_iload_n hx hb dX2_endBehind_167 rfl (lv_at hl 1 rfl) ?_
      refine lv_bipush (v := nI 59) hx hb dX2_endBehind_168 (by decide +kernel) ?_
      refine icmp_neN (tgt := 177) hx hb (by omega) (by omega) dX2_endBehind_170 (by decide) (fun c170 => ?_) (fun c170 => ?_)
      · skip
        refine lv_iconst (v := -1) hx hb dX2_endBehind_177 (by decide +kernel) ?_
        exact J178 (-1) _ (by show _ = ov (if _ then _ else _); first | (rw [if_pos c170]; rfl) | (rw [if_neg c170]; rfl)) (lv_sub hl [0, 1] rfl)
      · skip
        refine lv_iconst (v := nI 0) hx hb dX2_endBehind_173 (by decide +kernel) ?_
        refine lv_goto (tgt := 178) hx hb dX2_endBehind_174 (by decide) ?_
        exact J178 (nI 0) _ (by show _ = ov (if _ then _ else _); first | (rw [if_pos c170]; rfl) | (rw [if_neg c170]; rfl)) (lv_sub hl [0, 1] rfl)
set_option maxHeartbeats 4000000 in
set_option maxRecDepth 100000 in
theorem c_X2_length (l : Launch) (G : eG) (oa co : Nat) (len rt : Nat) (en : Option Nat) (tx : Nat → Int32) : Met l yX2_length wsX2_length ({ frames := 0, cells := 0, slots := 0, locals := 0 }) (PC [.ref oa] G (fun H => va_P G.1 vwCl [(oa, .inr (2, [.ref co, .int (nI len), .int (nI rt), .int (ov en)])), (co, .inl (G.2.1, 60, .inl tx))] H)) (PQ (some (.int (nI len)))) 0 0 noA := by
  refine ofB (cc := cX2_length) (maxL := 1) (ret := (some .int)) (by decide) rfl (Nat.le_of_ble_eq_true rfl) ?_
  intro p e s m below meth c hx hb hr hlocks hml hown hin hts hE hI ls hl
  replace hown : s.vm.findClass RX2 = some m.cls := hown
  have hl : lv_has ls 1 [(0, .ref oa)] := hl
  have hP : va_P G.1 vwCl [(oa, .inr (2, [.ref co, .int (nI len), .int (nI rt), .int (ov en)])), (co, .inl (G.2.1, 60, .inl tx))] s.heap := hI
  have w_0 : ∀ w ∈ u_ws RX2 TX2 4, w ∈ wsX2_length := by decide +kernel
  have w_1 := hts (.fieldLink RX2 15 "CableFerry$Orders" "length" "I") (by decide +kernel)
  skip
  refine lv_aload_n hx hb dX2_length_0 rfl (lv_at hl 0 rfl) ?_
  refine va_get (D := G.1) (ci := 2) (v := .int (nI len)) (C := RX2) (T := TX2) (N := 4) hx hb hts w_0 hown hE.1 hP 0 rfl rfl 1 (by decide) w_1 (fun _ h9 => h9) rfl dX2_length_1 ?_
  exact W.iret hx hb hr (fun t ht hW => ⟨rfl, ht⟩) (fun _ h => nomatch h) dX2_length_4
set_option maxHeartbeats 4000000 in
set_option maxRecDepth 100000 in
theorem c_X2_firstWrong (l : Launch) (G : eG) (oa co : Nat) (len rt : Nat) (en : Option Nat) (tx : Nat → Int32) : Met l yX2_firstWrong wsX2_firstWrong ({ frames := 0, cells := 0, slots := 0, locals := 0 }) (PC [.ref oa] G (fun H => va_P G.1 vwCl [(oa, .inr (2, [.ref co, .int (nI len), .int (nI rt), .int (ov en)])), (co, .inl (G.2.1, 60, .inl tx))] H)) (PQ (some (.int (nI rt)))) 0 0 noA := by
  refine ofB (cc := cX2_firstWrong) (maxL := 1) (ret := (some .int)) (by decide) rfl (Nat.le_of_ble_eq_true rfl) ?_
  intro p e s m below meth c hx hb hr hlocks hml hown hin hts hE hI ls hl
  replace hown : s.vm.findClass RX2 = some m.cls := hown
  have hl : lv_has ls 1 [(0, .ref oa)] := hl
  have hP : va_P G.1 vwCl [(oa, .inr (2, [.ref co, .int (nI len), .int (nI rt), .int (ov en)])), (co, .inl (G.2.1, 60, .inl tx))] s.heap := hI
  have w_0 : ∀ w ∈ u_ws RX2 TX2 4, w ∈ wsX2_firstWrong := by decide +kernel
  have w_1 := hts (.fieldLink RX2 19 "CableFerry$Orders" "right" "I") (by decide +kernel)
  skip
  refine lv_aload_n hx hb dX2_firstWrong_0 rfl (lv_at hl 0 rfl) ?_
  refine va_get (D := G.1) (ci := 2) (v := .int (nI rt)) (C := RX2) (T := TX2) (N := 4) hx hb hts w_0 hown hE.1 hP 0 rfl rfl 2 (by decide) w_1 (fun _ h9 => h9) rfl dX2_firstWrong_1 ?_
  exact W.iret hx hb hr (fun t ht hW => ⟨rfl, ht⟩) (fun _ h => nomatch h) dX2_firstWrong_4
set_option maxHeartbeats 4000000 in
set_option maxRecDepth 100000 in
theorem c_X2_areComplete (l : Launch) (G : eG) (oa co : Nat) (len rt : Nat) (en : Option Nat) (tx : Nat → Int32) (he : eOk en) : Met l yX2_areComplete wsX2_areComplete ({ frames := 0, cells := 0, slots := 0, locals := 0 }) (PC [.ref oa] G (fun H => va_P G.1 vwCl [(oa, .inr (2, [.ref co, .int (nI len), .int (nI rt), .int (ov en)])), (co, .inl (G.2.1, 60, .inl tx))] H)) (PQ (some (.int (b2 (eCp en = true))))) 0 0 noA := by
  refine ofB (cc := cX2_areComplete) (maxL := 1) (ret := (some .boolean)) (by decide) rfl (Nat.le_of_ble_eq_true rfl) ?_
  intro p e s m below meth c hx hb hr hlocks hml hown hin hts hE hI ls hl
  replace hown : s.vm.findClass RX2 = some m.cls := hown
  have hl : lv_has ls 1 [(0, .ref oa)] := hl
  have hP : va_P G.1 vwCl [(oa, .inr (2, [.ref co, .int (nI len), .int (nI rt), .int (ov en)])), (co, .inl (G.2.1, 60, .inl tx))] s.heap := hI
  have w_0 : ∀ w ∈ u_ws RX2 TX2 4, w ∈ wsX2_areComplete := by decide +kernel
  have w_1 := hts (.fieldLink RX2 22 "CableFerry$Orders" "end" "I") (by decide +kernel)
  skip
  refine lv_aload_n hx hb dX2_areComplete_0 rfl (lv_at hl 0 rfl) ?_
  refine cutL (σ := Int32) (n := 1) (pc1 := 14) (fun r => r = b2 (eCp en = true)) (fun r => [(0, .ref oa)]) (fun r => [.int r]) ?_ (fun J14 => ?_)
  · rintro r ls hI hl
    replace hI : r = b2 (eCp en = true) := hI
    subst hI
    have hl : lv_has ls 1 [(0, .ref oa)] := hl
    refine tS (st' := [.int (b2 (eCp en = true))]) rfl ?_
    exact W.zret hx hb hr (b2_z _) (fun t ht hW => ⟨rfl, ht⟩) (fun _ h => nomatch h) dX2_areComplete_14
  · skip
    refine va_get (D := G.1) (ci := 2) (v := .int (ov en)) (C := RX2) (T := TX2) (N := 4) hx hb hts w_0 hown hE.1 hP 0 rfl rfl 3 (by decide) w_1 (fun _ h9 => h9) rfl dX2_areComplete_1 ?_
    refine lv_bipush (v := nI 7) hx hb dX2_areComplete_4 (by decide +kernel) ?_
    refine lv_icmp_lt (tgt := 13) hx hb dX2_areComplete_6 (by decide) (fun c6 => ?_) (fun c6 => ?_)
    · skip
      refine lv_iconst (v := nI 0) hx hb dX2_areComplete_13 (by decide +kernel) ?_
      exact J14 (nI 0) _ (by first | exact (b2_f (fun q => Int32.not_le.mpr c6 ((eCp_i he).mpr q))).symm | exact (b2_t ((eCp_i he).mp (Int32.not_lt.mp c6))).symm) (lv_sub hl [0] rfl)
    · skip
      refine lv_iconst (v := nI 1) hx hb dX2_areComplete_9 (by decide +kernel) ?_
      refine lv_goto (tgt := 14) hx hb dX2_areComplete_10 (by decide) ?_
      exact J14 (nI 1) _ (by first | exact (b2_f (fun q => Int32.not_le.mpr c6 ((eCp_i he).mpr q))).symm | exact (b2_t ((eCp_i he).mp (Int32.not_lt.mp c6))).symm) (lv_sub hl [0] rfl)
set_option maxHeartbeats 4000000 in
set_option maxRecDepth 100000 in
theorem c_X2_codeAt (l : Launch) (G : eG) (oa co : Nat) (len rt : Nat) (en : Option Nat) (tx : Nat → Int32) (htx : Tx tx len) (i : Nat) (hi : i < 1000) : Met l yX2_codeAt wsX2_codeAt ({ frames := 1, cells := 0, slots := 0, locals := 21 }) (PC [.ref oa, .int (nI i)] G (fun H => va_P G.1 vwCl [(oa, .inr (2, [.ref co, .int (nI len), .int (nI rt), .int (ov en)])), (co, .inl (G.2.1, 60, .inl tx))] H)) (PQ (some (.int (cdA tx len i)))) 0 0 noA := by
  refine ofB (cc := cX2_codeAt) (maxL := 2) (ret := (some .int)) (by decide) rfl (Nat.le_of_ble_eq_true rfl) ?_
  intro p e s m below meth c hx hb hr hlocks hml hown hin hts hE hI ls hl
  replace hown : s.vm.findClass RX2 = some m.cls := hown
  have hl : lv_has ls 2 [(0, .ref oa), (1, .int (nI i))] := hl
  have hP : va_P G.1 vwCl [(oa, .inr (2, [.ref co, .int (nI len), .int (nI rt), .int (ov en)])), (co, .inl (G.2.1, 60, .inl tx))] s.heap := hI
  have w_0 : ∀ w ∈ u_ws RX2 TX2 4, w ∈ wsX2_codeAt := by decide +kernel
  have w_1 := hts (.fieldLink RX2 15 "CableFerry$Orders" "length" "I") (by decide +kernel)
  have w_2 := hts (.fieldLink RX2 9 "CableFerry$Orders" "codes" "[I") (by decide +kernel)
  have w_3 := hts (.static yX5_at) (by decide +kernel)
  have hlen := htx.1
  refine lv_iload_n hx hb dX2_codeAt_0 rfl (lv_at hl 1 rfl) ?_
  refine cutL (σ := Int32) (n := 2) (pc1 := 20) (fun r => r = cdA tx len i) (fun r => [(0, .ref oa), (1, .int (nI i))]) (fun r => [.int r]) ?_ (fun J20 => ?_)
  · rintro r ls hI hl
    replace hI : r = cdA tx len i := hI
    subst hI
    have hl : lv_has ls 2 [(0, .ref oa), (1, .int (nI i))] := hl
    refine tS (st' := [.int (cdA tx len i)]) rfl ?_
    exact W.iret hx hb hr (fun t ht hW => ⟨rfl, ht⟩) (fun _ h => nomatch h) dX2_codeAt_20
  · skip
    refine lv_aload_n hx hb dX2_codeAt_1 rfl (lv_at hl 0 rfl) ?_
    refine va_get (D := G.1) (ci := 2) (v := .int (nI len)) (C := RX2) (T := TX2) (N := 4) hx hb hts w_0 hown hE.1 hP 0 rfl rfl 1 (by decide) w_1 (fun _ h9 => h9) rfl dX2_codeAt_2 ?_
    refine icmp_geN (tgt := 19) hx hb (by omega) (by omega) dX2_codeAt_5 (by decide) (fun c5 => ?_) (fun c5 => ?_)
    · skip
      refine lv_iconst (v := -1) hx hb dX2_codeAt_19 (by decide +kernel) ?_
      exact J20 (-1) _ (by unfold cdA; first | (rw [if_neg (by omega)]; done) | rw [if_pos (by omega)]) (lv_sub hl [0, 1] rfl)
    · skip
      refine lv_aload_n hx hb dX2_codeAt_8 rfl (lv_at hl 0 rfl) ?_
      refine va_get (D := G.1) (ci := 2) (v := .ref co) (C := RX2) (T := TX2) (N := 4) hx hb hts w_0 hown hE.1 hP 0 rfl rfl 0 (by decide) w_2 (fun _ h9 => h9) rfl dX2_codeAt_9 ?_
      refine lv_iload_n hx hb dX2_codeAt_12 rfl (lv_at hl 1 rfl) ?_
      refine pcall (st1 := [.int (tx i)]) (va_runSN (As := [.ref co, .int (nI i)]) (rest := []) ⟨hx, hb, hml, hown, hts⟩ (c_X5_at l G co 60 tx i (by omega) (by decide)) ⟨va_cnB 2 hts gX2_codeAt_X5_at_n25 rfl rfl rfl (hE.2 (RX2, 25, yX5_at) (by decide +kernel)) (hts (.initialized RX5) (by decide +kernel)) (by decide +kernel) ⟨Nat.le_of_ble_eq_true rfl, Nat.le_of_ble_eq_true rfl⟩, w_3, trivial⟩ (PC.preS hE (hP.sub [1] rfl)) rfl rfl hl.1 rfl (lv_room (Nat.le_of_ble_eq_true rfl)) dX2_codeAt_13 ⟨Nat.zero_le _, Nat.zero_le _⟩) rfl ?_
      refine lv_goto (tgt := 20) hx hb dX2_codeAt_16 (by decide) ?_
      exact J20 (tx i) _ (by unfold cdA; first | (rw [if_neg (by omega)]; done) | rw [if_pos (by omega)]) (lv_sub hl [0, 1] rfl)
set_option maxHeartbeats 4000000 in
set_option maxRecDepth 100000 in
theorem c_X2_isStartOfPart (l : Launch) (G : eG) (oa co : Nat) (len rt : Nat) (en : Option Nat) (tx : Nat → Int32) (htx : Tx tx len) (i : Nat) (hi : i ≤ len) : Met l yX2_isStartOfPart wsX2_isStartOfPart ({ frames := 2, cells := 0, slots := 0, locals := 42 }) (PC [.ref oa, .int (nI i)] G (fun H => va_P G.1 vwCl [(oa, .inr (2, [.ref co, .int (nI len), .int (nI rt), .int (ov en)])), (co, .inl (G.2.1, 60, .inl tx))] H)) (PQ (some (.int (b2 (isS tx i))))) 0 0 noA := by
  refine ofB (cc := cX2_isStartOfPart) (maxL := 2) (ret := (some .boolean)) (by decide) rfl (Nat.le_of_ble_eq_true rfl) ?_
  intro p e s m below meth c hx hb hr hlocks hml hown hin hts hE hI ls hl
  replace hown : s.vm.findClass RX2 = some m.cls := hown
  have hl : lv_has ls 2 [(0, .ref oa), (1, .int (nI i))] := hl
  have hP : va_P G.1 vwCl [(oa, .inr (2, [.ref co, .int (nI len), .int (nI rt), .int (ov en)])), (co, .inl (G.2.1, 60, .inl tx))] s.heap := hI
  have hlen := htx.1
  refine lv_iload_n hx hb dX2_isStartOfPart_0 rfl (lv_at hl 1 rfl) ?_
  refine cutL (σ := Int32) (n := 2) (pc1 := 21) (fun r => r = b2 (isS tx i)) (fun r => [(0, .ref oa), (1, .int (nI i))]) (fun r => [.int r]) ?_ (fun J21 => ?_)
  · rintro r ls hI hl
    replace hI : r = b2 (isS tx i) := hI
    subst hI
    have hl : lv_has ls 2 [(0, .ref oa), (1, .int (nI i))] := hl
    refine tS (st' := [.int (b2 (isS tx i))]) rfl ?_
    exact W.zret hx hb hr (b2_z _) (fun t ht hW => ⟨rfl, ht⟩) (fun _ h => nomatch h) dX2_isStartOfPart_21
  · skip
    refine if_eqN (tgt := 16) hx hb (by omega) dX2_isStartOfPart_1 (by decide) (fun c1 => ?_) (fun c1 => ?_)
    · skip
      refine lv_iconst (v := nI 1) hx hb dX2_isStartOfPart_16 (by decide +kernel) ?_
      refine lv_goto (tgt := 21) hx hb dX2_isStartOfPart_17 (by decide) ?_
      exact J21 (nI 1) _ (by unfold b2; first | (rw [if_pos (.inl (by omega))]; done) | (rw [if_pos (.inr (by omega))]; done) | (rw [if_neg (fun q => q.elim (fun q => by omega) (fun q => by omega))]; done)) (lv_sub hl [0, 1] rfl)
    · skip
      refine lv_aload_n hx hb dX2_isStartOfPart_4 rfl (lv_at hl 0 rfl) ?_
      refine lv_iload_n hx hb dX2_isStartOfPart_5 rfl (lv_at hl 1 rfl) ?_
      refine lv_iconst (v := nI 1) hx hb dX2_isStartOfPart_6 (by decide +kernel) ?_
      refine isubN hx hb (by omega) dX2_isStartOfPart_7 ?_
      refine pcall (st1 := [.int (cdA tx len (i - 1))]) (va_runV (As := [.int (nI (i - 1))]) (rest := []) ⟨hx, hb, hml, hown, hts⟩ (c_X2_codeAt l G oa co len rt en tx htx (i - 1) (by omega)) (cwV 1 hts gX2_isStartOfPart_X2_codeAt rfl rfl rfl (by decide +kernel) ⟨Nat.le_of_ble_eq_true rfl, Nat.le_of_ble_eq_true rfl⟩) (PC.preV hE (va_recv hE.1 hP (ci := 2) (q0 := 0) rfl rfl) (hP.sub [0, 1] rfl)) rfl rfl hl.1 rfl (lv_room (Nat.le_of_ble_eq_true rfl)) dX2_isStartOfPart_8 ⟨Nat.zero_le _, Nat.zero_le _⟩) rfl ?_
      refine tI (y := nI (nn tx (i - 1))) (by unfold cdA; rw [if_pos (by omega)]; exact (htx.2 _ (by omega)).1) ?_
      have hch := (htx.2 (i - 1) (by omega)).2
      refine lv_bipush (v := nI 59) hx hb dX2_isStartOfPart_11 (by decide +kernel) ?_
      refine icmp_neN (tgt := 20) hx hb (by omega) (by omega) dX2_isStartOfPart_13 (by decide) (fun c13 => ?_) (fun c13 => ?_)
      · skip
        refine lv_iconst (v := nI 0) hx hb dX2_isStartOfPart_20 (by decide +kernel) ?_
        exact J21 (nI 0) _ (by unfold b2; first | (rw [if_pos (.inl (by omega))]; done) | (rw [if_pos (.inr (by omega))]; done) | (rw [if_neg (fun q => q.elim (fun q => by omega) (fun q => by omega))]; done)) (lv_sub hl [0, 1] rfl)
      · skip
        refine lv_iconst (v := nI 1) hx hb dX2_isStartOfPart_16 (by decide +kernel) ?_
        refine lv_goto (tgt := 21) hx hb dX2_isStartOfPart_17 (by decide) ?_
        exact J21 (nI 1) _ (by unfold b2; first | (rw [if_pos (.inl (by omega))]; done) | (rw [if_pos (.inr (by omega))]; done) | (rw [if_neg (fun q => q.elim (fun q => by omega) (fun q => by omega))]; done)) (lv_sub hl [0, 1] rfl)
set_option maxHeartbeats 4000000 in
set_option maxRecDepth 100000 in
theorem c_X2_numberAt (l : Launch) (G : eG) (oa co : Nat) (len rt : Nat) (en : Option Nat) (tx : Nat → Int32) (htx : Tx tx len) (st : Nat) (hst : st < 1000) : Met l yX2_numberAt wsX2_numberAt ({ frames := 2, cells := 0, slots := 0, locals := 42 }) (PC [.ref oa, .int (nI st)] G (fun H => va_P G.1 vwCl [(oa, .inr (2, [.ref co, .int (nI len), .int (nI rt), .int (ov en)])), (co, .inl (G.2.1, 60, .inl tx))] H)) (PQ (some (.int (nI (nuF (nn tx) len (len - st) st 0))))) 0 0 noA := by
  refine ofB (cc := cX2_numberAt) (maxL := 4) (ret := (some .int)) (by decide) rfl (Nat.le_of_ble_eq_true rfl) ?_
  intro p e s m below meth c hx hb hr hlocks hml hown hin hts hE hI ls hl
  replace hown : s.vm.findClass RX2 = some m.cls := hown
  have hl : lv_has ls 4 [(0, .ref oa), (1, .int (nI st))] := hl
  have hP : va_P G.1 vwCl [(oa, .inr (2, [.ref co, .int (nI len), .int (nI rt), .int (ov en)])), (co, .inl (G.2.1, 60, .inl tx))] s.heap := hI
  have w_0 : ∀ w ∈ u_ws RX2 TX2 4, w ∈ wsX2_numberAt := by decide +kernel
  have w_1 := hts (.fieldLink RX2 15 "CableFerry$Orders" "length" "I") (by decide +kernel)
  have w_2 := hts (.static yX5_isWithin) (by decide +kernel)
  have hlen := htx.1
  refine lv_iconst (v := nI 0) hx hb dX2_numberAt_0 (by decide +kernel) ?_
  refine lv_istore_n (lv' := [(2, .int (nI 0)), (0, .ref oa), (1, .int (nI st))]) hx hb dX2_numberAt_1 rfl hl (by decide) rfl (fun ls hl => ?_)
  refine lv_iload_n hx hb dX2_numberAt_2 rfl (lv_at hl 2 rfl) ?_
  refine lv_istore_n (lv' := [(3, .int (nI st)), (2, .int (nI 0)), (0, .ref oa), (1, .int (nI st))]) hx hb dX2_numberAt_3 rfl hl (by decide) rfl (fun ls hl => ?_)
  refine loopL (σ := Nat × Nat) (n := 4) (pc1 := 4) (fun (z_ : Nat × Nat) => match z_ with | (j, a) => len - j) (fun (z_ : Nat × Nat) => match z_ with | (j, a) => j < 1000 ∧ nuF (nn tx) len (len - j) j a = nuF (nn tx) len (len - st) st 0) (fun (z_ : Nat × Nat) => match z_ with | (j, a) => [(3, .int (nI j)), (2, .int (nI a)), (0, .ref oa), (1, .int (nI st))]) (fun (z_ : Nat × Nat) => match z_ with | (j, a) => []) ?_ (st, 0) _ ⟨by omega, rfl⟩ (lv_sub hl [0, 1, 2, 3] rfl)
  rintro ⟨j, a⟩ ls hI hl ih4
  have hl : lv_has ls 4 [(3, .int (nI j)), (2, .int (nI a)), (0, .ref oa), (1, .int (nI st))] := hl
  replace hI : j < 1000 ∧ nuF (nn tx) len (len - j) j a = nuF (nn tx) len (len - st) st 0 := hI
  obtain ⟨hj, hnu⟩ := hI
  refine tS (st' := []) rfl ?_
  refine lv_iload_n hx hb dX2_numberAt_4 rfl (lv_at hl 0 rfl) ?_
  refine lv_aload_n hx hb dX2_numberAt_5 rfl (lv_at hl 2 rfl) ?_
  refine va_get (D := G.1) (ci := 2) (v := .int (nI len)) (C := RX2) (T := TX2) (N := 4) hx hb hts w_0 hown hE.1 hP 0 rfl rfl 1 (by decide) w_1 (fun _ h9 => h9) rfl dX2_numberAt_6 ?_
  refine icmp_geN (tgt := 47) hx hb (by omega) (by omega) dX2_numberAt_9 (by decide) (fun c9 => ?_) (fun c9 => ?_)
  · skip
    refine lv_iload_n hx hb dX2_numberAt_47 rfl (lv_at hl 1 rfl) ?_
    refine tS (st' := [.int (nI (nuF (nn tx) len (len - st) st 0))]) (congrArg (fun z => [Value.int z]) (congrArg nI (by rw [← hnu]; exact (nuF_e (by omega)).symm))) ?_
    exact W.iret hx hb hr (fun t ht hW => ⟨rfl, ht⟩) (fun _ h => nomatch h) dX2_numberAt_48
  · skip
    refine lv_aload_n hx hb dX2_numberAt_12 rfl (lv_at hl 2 rfl) ?_
    refine lv_iload_n hx hb dX2_numberAt_13 rfl (lv_at hl 0 rfl) ?_
    refine pcall (st1 := [.int (cdA tx len j)]) (va_runV (As := [.int (nI j)]) (rest := []) ⟨hx, hb, hml, hown, hts⟩ (c_X2_codeAt l G oa co len rt en tx htx j (by omega)) (cwV 1 hts gX2_numberAt_X2_codeAt rfl rfl rfl (by decide +kernel) ⟨Nat.le_of_ble_eq_true rfl, Nat.le_of_ble_eq_true rfl⟩) (PC.preV hE (va_recv hE.1 hP (ci := 2) (q0 := 0) rfl rfl) (hP.sub [0, 1] rfl)) rfl rfl hl.1 rfl (lv_room (Nat.le_of_ble_eq_true rfl)) dX2_numberAt_14 ⟨Nat.zero_le _, Nat.zero_le _⟩) rfl ?_
    have hch := (htx.2 j (by omega)).2
    refine tI (y := nI (nn tx j)) (by unfold cdA; rw [if_pos (by omega)]; exact (htx.2 _ (by omega)).1) ?_
    refine lv_bipush (v := nI 48) hx hb dX2_numberAt_17 (by decide +kernel) ?_
    refine lv_bipush (v := nI 57) hx hb dX2_numberAt_19 (by decide +kernel) ?_
    refine pcall (st1 := [.int (b2 ((nI 48) ≤ (nI (nn tx j)) ∧ (nI (nn tx j)) ≤ (nI 57)))]) (va_runSN (As := [.int (nI (nn tx j)), .int (nI 48), .int (nI 57)]) (rest := []) ⟨hx, hb, hml, hown, hts⟩ (c_X5_isWithin l G (nI (nn tx j)) (nI 48) (nI 57)) ⟨va_cnB 3 hts gX2_numberAt_X5_isWithin_n41 rfl rfl rfl (hE.2 (RX2, 41, yX5_isWithin) (by decide +kernel)) (hts (.initialized RX5) (by decide +kernel)) (by decide +kernel) ⟨Nat.le_of_ble_eq_true rfl, Nat.le_of_ble_eq_true rfl⟩, w_2, trivial⟩ (PC.preS hE P_nil) rfl rfl hl.1 rfl (lv_room (Nat.le_of_ble_eq_true rfl)) dX2_numberAt_21 ⟨Nat.zero_le _, Nat.zero_le _⟩) rfl ?_
    refine lv_if_eq (tgt := 47) hx hb dX2_numberAt_24 (by decide) (fun c24 => ?_) (fun c24 => ?_)
    · skip
      replace c24 : ¬(48 ≤ nn tx j ∧ nn tx j ≤ 57) := fun q => b2_0.mp c24 ((inN_iff (by omega) (by omega) (by omega)).mpr q)
      refine lv_iload_n hx hb dX2_numberAt_47 rfl (lv_at hl 1 rfl) ?_
      refine tS (st' := [.int (nI (nuF (nn tx) len (len - st) st 0))]) (congrArg (fun z => [Value.int z]) (congrArg nI (by rw [← hnu]; exact (nuF_d c24).symm))) ?_
      exact W.iret hx hb hr (fun t ht hW => ⟨rfl, ht⟩) (fun _ h => nomatch h) dX2_numberAt_48
    · skip
      replace c24 : 48 ≤ nn tx j ∧ nn tx j ≤ 57 := (inN_iff (by omega) (by omega) (by omega)).mp (b2_1.mp c24)
      refine lv_bipush (v := nI 10) hx hb dX2_numberAt_27 (by decide +kernel) ?_
      refine lv_iload_n hx hb dX2_numberAt_29 rfl (lv_at hl 1 rfl) ?_
      refine imulN hx hb dX2_numberAt_30 ?_
      refine lv_aload_n hx hb dX2_numberAt_31 rfl (lv_at hl 2 rfl) ?_
      refine lv_iload_n hx hb dX2_numberAt_32 rfl (lv_at hl 0 rfl) ?_
      refine pcall (st1 := [.int (cdA tx len j), .int (nI (10 * a))]) (va_runV (As := [.int (nI j)]) (rest := [.int (nI (10 * a))]) ⟨hx, hb, hml, hown, hts⟩ (c_X2_codeAt l G oa co len rt en tx htx j (by omega)) (cwV 1 hts gX2_numberAt_X2_codeAt rfl rfl rfl (by decide +kernel) ⟨Nat.le_of_ble_eq_true rfl, Nat.le_of_ble_eq_true rfl⟩) (PC.preV hE (va_recv hE.1 hP (ci := 2) (q0 := 0) rfl rfl) (hP.sub [0, 1] rfl)) rfl rfl hl.1 rfl (lv_room (Nat.le_of_ble_eq_true rfl)) dX2_numberAt_33 ⟨Nat.zero_le _, Nat.zero_le _⟩) rfl ?_
      refine tI (y := nI (nn tx j)) (by unfold cdA; rw [if_pos (by omega)]; exact (htx.2 _ (by omega)).1) ?_
      refine iaddN hx hb dX2_numberAt_36 ?_
      refine lv_bipush (v := nI 48) hx hb dX2_numberAt_37 (by decide +kernel) ?_
      refine isubN hx hb (by omega) dX2_numberAt_39 ?_
      refine lv_istore_n (lv' := [(2, .int (nI (((10 * a) + (nn tx j)) - 48))), (3, .int (nI j)), (0, .ref oa), (1, .int (nI st))]) hx hb dX2_numberAt_40 rfl hl (by decide) rfl (fun ls hl => ?_)
      refine lv_iinc (v := nI (j + 1)) (lv' := [(3, .int (nI (j + 1))), (2, .int (nI (((10 * a) + (nn tx j)) - 48))), (0, .ref oa), (1, .int (nI st))]) hx hb dX2_numberAt_41 hl (k := 1) rfl (nI_inc1 _) (by decide) rfl (fun ls hl => ?_)
      refine lv_goto (tgt := 4) hx hb dX2_numberAt_44 (by decide) ?_
      exact ih4 ((j + 1), (((10 * a) + (nn tx j)) - 48)) _ ⟨by omega, by rw [← hnu]; exact (nuF_s (by omega) c24).symm⟩ (lv_sub hl [0, 1, 2, 3] rfl) (by (try dsimp only); omega)
set_option maxHeartbeats 4000000 in
set_option maxRecDepth 100000 in
theorem c_X2_clear (l : Launch) (G : eG) (oa co : Nat) (len rt : Nat) (en : Option Nat) (tx : Nat → Int32) : Met l yX2_clear wsX2_clear ({ frames := 0, cells := 0, slots := 0, locals := 0 }) (PC [.ref oa] G (fun H => va_P G.1 vwCl [(oa, .inr (2, [.ref co, .int (nI len), .int (nI rt), .int (ov en)])), (co, .inl (G.2.1, 60, .inl tx))] H ∧ va_D (fun _ => True) [(oa, .inr (2, [.ref co, .int (nI len), .int (nI rt), .int (ov en)])), (co, .inl (G.2.1, 60, .inl tx))])) (MV (none) (fun H => va_P G.1 vwCl [(oa, .inr (2, [.ref co, .int (nI 0), .int (nI 0), .int (ov (some 0))])), (co, .inl (G.2.1, 60, .inl tx))] H ∧ va_D (inW [(oa, .inr (2, [.ref co, .int (nI len), .int (nI rt), .int (ov en)])), (co, .inl (G.2.1, 60, .inl tx))]) [(oa, .inr (2, [.ref co, .int (nI 0), .int (nI 0), .int (ov (some 0))])), (co, .inl (G.2.1, 60, .inl tx))]) (inW [(oa, .inr (2, [.ref co, .int (nI len), .int (nI rt), .int (ov en)])), (co, .inl (G.2.1, 60, .inl tx))])) 0 0 (inW [(oa, .inr (2, [.ref co, .int (nI len), .int (nI rt), .int (ov en)])), (co, .inl (G.2.1, 60, .inl tx))]) := by
  refine ofB (cc := cX2_clear) (maxL := 1) (ret := none) (by decide) rfl (Nat.le_of_ble_eq_true rfl) ?_
  intro p e s m below meth c hx hb hr hlocks hml hown hin hts hE hI ls hl
  replace hown : s.vm.findClass RX2 = some m.cls := hown
  have hl : lv_has ls 1 [(0, .ref oa)] := hl
  obtain ⟨hP, hD0⟩ := hI
  have hD : va_D (inW [(oa, .inr (2, [.ref co, .int (nI len), .int (nI rt), .int (ov en)])), (co, .inl (G.2.1, 60, .inl tx))]) [(oa, .inr (2, [.ref co, .int (nI len), .int (nI rt), .int (ov en)])), (co, .inl (G.2.1, 60, .inl tx))] := D_self hD0
  obtain ⟨A, hAe⟩ : ∃ A, A = inW [(oa, .inr (2, [.ref co, .int (nI len), .int (nI rt), .int (ov en)])), (co, .inl (G.2.1, 60, .inl tx))] := ⟨_, rfl⟩
  rw [← hAe] at hD ⊢
  have hS : va_S A s.heap s.heap [] := va_S.rf
  obtain ⟨H, hHe⟩ : ∃ H, H = s.heap := ⟨_, rfl⟩
  obtain ⟨locs, hle⟩ : ∃ q : List Loc, q = [] := ⟨_, rfl⟩
  rw [← hle] at hS ⊢
  have hP : va_P G.1 vwCl [(oa, .inr (2, [.ref co, .int (nI len), .int (nI rt), .int (ov en)])), (co, .inl (G.2.1, 60, .inl tx))] H := by rw [hHe]; exact hP
  replace hS : va_S A s.heap H locs := by rw [hHe]; exact hS
  refine tH hHe ?_
  have w_0 : ∀ w ∈ u_ws RX2 TX2 4, w ∈ wsX2_clear := by decide +kernel
  have w_1 := hts (.fieldLink RX2 15 "CableFerry$Orders" "length" "I") (by decide +kernel)
  have w_2 := hts (.fieldLink RX2 19 "CableFerry$Orders" "right" "I") (by decide +kernel)
  have w_3 := hts (.fieldLink RX2 22 "CableFerry$Orders" "end" "I") (by decide +kernel)
  skip
  refine lv_aload_n hx hb dX2_clear_0 rfl (lv_at hl 0 rfl) ?_
  refine lv_iconst (v := nI 0) hx hb dX2_clear_1 (by decide +kernel) ?_
  refine va_put (D := G.1) (ci := 2) (v := .int (nI 0)) (ty := .int) (C := RX2) (T := TX2) (N := 4) hx hb hts w_0 tyX2 tyX2_ok nmX2 hown hE.1 hP hD hS 0 rfl rfl 1 (by decide) w_1 (fun _ h9 => h9) rfl (by decide +kernel) rfl rfl (Nat.le_of_ble_eq_true rfl) dX2_clear_2 (fun H locs hP hD hS => ?_)
  have hP : va_P G.1 vwCl [(oa, .inr (2, [.ref co, .int (nI 0), .int (nI rt), .int (ov en)])), (co, .inl (G.2.1, 60, .inl tx))] H := hP
  have hD : va_D A [(oa, .inr (2, [.ref co, .int (nI 0), .int (nI rt), .int (ov en)])), (co, .inl (G.2.1, 60, .inl tx))] := hD
  refine lv_aload_n hx hb dX2_clear_5 rfl (lv_at hl 0 rfl) ?_
  refine lv_iconst (v := nI 0) hx hb dX2_clear_6 (by decide +kernel) ?_
  refine va_put (D := G.1) (ci := 2) (v := .int (nI 0)) (ty := .int) (C := RX2) (T := TX2) (N := 4) hx hb hts w_0 tyX2 tyX2_ok nmX2 hown hE.1 hP hD hS 0 rfl rfl 2 (by decide) w_2 (fun _ h9 => h9) rfl (by decide +kernel) rfl rfl (Nat.le_of_ble_eq_true rfl) dX2_clear_7 (fun H locs hP hD hS => ?_)
  have hP : va_P G.1 vwCl [(oa, .inr (2, [.ref co, .int (nI 0), .int (nI 0), .int (ov en)])), (co, .inl (G.2.1, 60, .inl tx))] H := hP
  have hD : va_D A [(oa, .inr (2, [.ref co, .int (nI 0), .int (nI 0), .int (ov en)])), (co, .inl (G.2.1, 60, .inl tx))] := hD
  refine lv_aload_n hx hb dX2_clear_10 rfl (lv_at hl 0 rfl) ?_
  refine lv_iconst (v := nI 0) hx hb dX2_clear_11 (by decide +kernel) ?_
  refine va_put (D := G.1) (ci := 2) (v := .int (nI 0)) (ty := .int) (C := RX2) (T := TX2) (N := 4) hx hb hts w_0 tyX2 tyX2_ok nmX2 hown hE.1 hP hD hS 0 rfl rfl 3 (by decide) w_3 (fun _ h9 => h9) rfl (by decide +kernel) rfl rfl (Nat.le_of_ble_eq_true rfl) dX2_clear_12 (fun H locs hP hD hS => ?_)
  have hP : va_P G.1 vwCl [(oa, .inr (2, [.ref co, .int (nI 0), .int (nI 0), .int (nI 0)])), (co, .inl (G.2.1, 60, .inl tx))] H := hP
  have hD : va_D A [(oa, .inr (2, [.ref co, .int (nI 0), .int (nI 0), .int (nI 0)])), (co, .inl (G.2.1, 60, .inl tx))] := hD
  exact W.vret hx hb hr (fun t ht hW => ⟨rfl, by rw [ht]; exact ⟨hP, hD⟩, hS.F ht⟩) hS.2.2 dX2_clear_15
set_option maxHeartbeats 4000000 in
set_option maxRecDepth 100000 in
theorem c_X2_add (l : Launch) (G : eG) (oa co : Nat) (len rt : Nat) (en : Option Nat) (tx : Nat → Int32) (he : eOk en) (hln : len < 60) (hrt : rt ≤ len) (ch : Nat) (hc : ch < 1000) : Met l yX2_add wsX2_add ({ frames := 3, cells := 0, slots := 0, locals := 64 }) (PC [.ref oa, .int (nI ch)] G (fun H => va_P G.1 vwCl [(oa, .inr (2, [.ref co, .int (nI len), .int (nI rt), .int (ov en)])), (co, .inl (G.2.1, 60, .inl tx))] H ∧ va_D (fun _ => True) [(oa, .inr (2, [.ref co, .int (nI len), .int (nI rt), .int (ov en)])), (co, .inl (G.2.1, 60, .inl tx))])) (MV (none) (fun H => va_P G.1 vwCl [(oa, .inr (2, [.ref co, .int (nI (len + 1)), .int (nI (rtN rt (ebF en ch))), .int (ov (ebF en ch))])), (co, .inl (G.2.1, 60, .inl (upd tx len (nI ch))))] H ∧ va_D (inW [(oa, .inr (2, [.ref co, .int (nI len), .int (nI rt), .int (ov en)])), (co, .inl (G.2.1, 60, .inl tx))]) [(oa, .inr (2, [.ref co, .int (nI (len + 1)), .int (nI (rtN rt (ebF en ch))), .int (ov (ebF en ch))])), (co, .inl (G.2.1, 60, .inl (upd tx len (nI ch))))]) (inW [(oa, .inr (2, [.ref co, .int (nI len), .int (nI rt), .int (ov en)])), (co, .inl (G.2.1, 60, .inl tx))])) 0 0 (inW [(oa, .inr (2, [.ref co, .int (nI len), .int (nI rt), .int (ov en)])), (co, .inl (G.2.1, 60, .inl tx))]) := by
  refine ofB (cc := cX2_add) (maxL := 2) (ret := none) (by decide) rfl (Nat.le_of_ble_eq_true rfl) ?_
  intro p e s m below meth c hx hb hr hlocks hml hown hin hts hE hI ls hl
  replace hown : s.vm.findClass RX2 = some m.cls := hown
  have hl : lv_has ls 2 [(0, .ref oa), (1, .int (nI ch))] := hl
  obtain ⟨hP, hD0⟩ := hI
  have hD : va_D (inW [(oa, .inr (2, [.ref co, .int (nI len), .int (nI rt), .int (ov en)])), (co, .inl (G.2.1, 60, .inl tx))]) [(oa, .inr (2, [.ref co, .int (nI len), .int (nI rt), .int (ov en)])), (co, .inl (G.2.1, 60, .inl tx))] := D_self hD0
  obtain ⟨A, hAe⟩ : ∃ A, A = inW [(oa, .inr (2, [.ref co, .int (nI len), .int (nI rt), .int (ov en)])), (co, .inl (G.2.1, 60, .inl tx))] := ⟨_, rfl⟩
  rw [← hAe] at hD ⊢
  have hS : va_S A s.heap s.heap [] := va_S.rf
  obtain ⟨H, hHe⟩ : ∃ H, H = s.heap := ⟨_, rfl⟩
  obtain ⟨locs, hle⟩ : ∃ q : List Loc, q = [] := ⟨_, rfl⟩
  rw [← hle] at hS ⊢
  have hP : va_P G.1 vwCl [(oa, .inr (2, [.ref co, .int (nI len), .int (nI rt), .int (ov en)])), (co, .inl (G.2.1, 60, .inl tx))] H := by rw [hHe]; exact hP
  replace hS : va_S A s.heap H locs := by rw [hHe]; exact hS
  refine tH hHe ?_
  have w_0 : ∀ w ∈ u_ws RX2 TX2 4, w ∈ wsX2_add := by decide +kernel
  have w_1 := hts (.fieldLink RX2 9 "CableFerry$Orders" "codes" "[I") (by decide +kernel)
  have w_2 := hts (.fieldLink RX2 15 "CableFerry$Orders" "length" "I") (by decide +kernel)
  have w_3 := hts (.static yX5_put) (by decide +kernel)
  have w_4 := hts (.fieldLink RX2 22 "CableFerry$Orders" "end" "I") (by decide +kernel)
  have w_5 := hts (.fieldLink RX2 19 "CableFerry$Orders" "right" "I") (by decide +kernel)
  skip
  refine lv_aload_n hx hb dX2_add_0 rfl (lv_at hl 0 rfl) ?_
  refine va_get (D := G.1) (ci := 2) (v := .ref co) (C := RX2) (T := TX2) (N := 4) hx hb hts w_0 hown hE.1 hP 0 rfl rfl 0 (by decide) w_1 (fun _ h9 => h9) rfl dX2_add_1 ?_
  refine lv_aload_n hx hb dX2_add_4 rfl (lv_at hl 0 rfl) ?_
  refine va_get (D := G.1) (ci := 2) (v := .int (nI len)) (C := RX2) (T := TX2) (N := 4) hx hb hts w_0 hown hE.1 hP 0 rfl rfl 1 (by decide) w_2 (fun _ h9 => h9) rfl dX2_add_5 ?_
  refine lv_iload_n hx hb dX2_add_8 rfl (lv_at hl 1 rfl) ?_
  have hPc := hP.sub (ws' := [(co, .inl (G.2.1, 60, .inl tx))]) [1] rfl
  have hDc := hD.sub (ws' := [(co, .inl (G.2.1, 60, .inl tx))]) [1] (by decide) rfl
  refine mcall (st1 := []) (va_runSN (As := [.ref co, .int (nI len), .int (nI ch)]) (rest := []) ⟨hx, hb, hml, hown, hts⟩ (c_X5_put l G co 60 tx len (nI ch) (by omega) (by decide)) ⟨va_cnB 3 hts gX2_add_X5_put_n29 rfl rfl rfl (hE.2 (RX2, 29, yX5_put) (by decide +kernel)) (hts (.initialized RX5) (by decide +kernel)) (by decide +kernel) ⟨Nat.le_of_ble_eq_true rfl, Nat.le_of_ble_eq_true rfl⟩, w_3, trivial⟩ (PC.preS hE ⟨hPc, hDc.weaken (fun _ _ _ _ => trivial)⟩) rfl rfl hl.1 rfl (lv_room (Nat.le_of_ble_eq_true rfl)) dX2_add_9 ⟨Nat.zero_le _, Nat.zero_le _⟩) hS (fun q _ h => inW_D hDc q h) (fun q h => inW_D hDc q h) rfl (fun H1 locs1 hB hz1 hk1 hS => ?_)
  obtain ⟨hP1, hD1⟩ := hB
  obtain ⟨hP, hD⟩ := jnW (wr := [(oa, .inr (2, [.ref co, .int (nI len), .int (nI rt), .int (ov en)]))]) (w1 := [(co, .inl (G.2.1, 60, .inl (upd tx len (nI ch))))]) hP hD [1] [0] rfl rfl (by decide) (by decide) hk1 hP1 hD1
  generalize H1 = H at hP hS ⊢
  have hP : va_P G.1 vwCl [(oa, .inr (2, [.ref co, .int (nI len), .int (nI rt), .int (ov en)])), (co, .inl (G.2.1, 60, .inl (upd tx len (nI ch))))] H := hP
  have hD : va_D A [(oa, .inr (2, [.ref co, .int (nI len), .int (nI rt), .int (ov en)])), (co, .inl (G.2.1, 60, .inl (upd tx len (nI ch))))] := hD
  refine lv_aload_n hx hb dX2_add_12 rfl (lv_at hl 0 rfl) ?_
  refine lv_dup hx hb dX2_add_13 rfl ?_
  refine va_get (D := G.1) (ci := 2) (v := .int (nI len)) (C := RX2) (T := TX2) (N := 4) hx hb hts w_0 hown hE.1 hP 0 rfl rfl 1 (by decide) w_2 (fun _ h9 => h9) rfl dX2_add_14 ?_
  refine lv_iconst (v := nI 1) hx hb dX2_add_17 (by decide +kernel) ?_
  refine iaddN hx hb dX2_add_18 ?_
  refine va_put (D := G.1) (ci := 2) (v := .int (nI (len + 1))) (ty := .int) (C := RX2) (T := TX2) (N := 4) hx hb hts w_0 tyX2 tyX2_ok nmX2 hown hE.1 hP hD hS 0 rfl rfl 1 (by decide) w_2 (fun _ h9 => h9) rfl (by decide +kernel) rfl rfl (Nat.le_of_ble_eq_true rfl) dX2_add_19 (fun H locs hP hD hS => ?_)
  have hP : va_P G.1 vwCl [(oa, .inr (2, [.ref co, .int (nI (len + 1)), .int (nI rt), .int (ov en)])), (co, .inl (G.2.1, 60, .inl (upd tx len (nI ch))))] H := hP
  have hD : va_D A [(oa, .inr (2, [.ref co, .int (nI (len + 1)), .int (nI rt), .int (ov en)])), (co, .inl (G.2.1, 60, .inl (upd tx len (nI ch))))] := hD
  refine lv_aload_n hx hb dX2_add_22 rfl (lv_at hl 0 rfl) ?_
  refine lv_aload_n hx hb dX2_add_23 rfl (lv_at hl 0 rfl) ?_
  refine va_get (D := G.1) (ci := 2) (v := .int (ov en)) (C := RX2) (T := TX2) (N := 4) hx hb hts w_0 hown hE.1 hP 0 rfl rfl 3 (by decide) w_4 (fun _ h9 => h9) rfl dX2_add_24 ?_
  refine lv_iload_n hx hb dX2_add_27 rfl (lv_at hl 1 rfl) ?_
  refine pcall (st1 := [.int (ov (ebF en ch)), .ref oa]) (va_runS (As := [.int (ov en), .int (nI ch)]) (rest := [.ref oa]) ⟨hx, hb, hml, hown, hts⟩ (c_X2_endBehind l G en ch he (by omega)) (va_cwS 2 hts gX2_add_X2_endBehind rfl rfl rfl (by decide +kernel) ⟨Nat.le_of_ble_eq_true rfl, Nat.le_of_ble_eq_true rfl⟩) (PC.preS hE P_nil) rfl rfl hl.1 rfl (lv_room (Nat.le_of_ble_eq_true rfl)) dX2_add_28 ⟨Nat.zero_le _, Nat.zero_le _⟩) rfl ?_
  refine va_put (D := G.1) (ci := 2) (v := .int (ov (ebF en ch))) (ty := .int) (C := RX2) (T := TX2) (N := 4) hx hb hts w_0 tyX2 tyX2_ok nmX2 hown hE.1 hP hD hS 0 rfl rfl 3 (by decide) w_4 (fun _ h9 => h9) rfl (by decide +kernel) rfl rfl (Nat.le_of_ble_eq_true rfl) dX2_add_31 (fun H locs hP hD hS => ?_)
  have hP : va_P G.1 vwCl [(oa, .inr (2, [.ref co, .int (nI (len + 1)), .int (nI rt), .int (ov (ebF en ch))])), (co, .inl (G.2.1, 60, .inl (upd tx len (nI ch))))] H := hP
  have hD : va_D A [(oa, .inr (2, [.ref co, .int (nI (len + 1)), .int (nI rt), .int (ov (ebF en ch))])), (co, .inl (G.2.1, 60, .inl (upd tx len (nI ch))))] := hD
  refine lv_aload_n hx hb dX2_add_34 rfl (lv_at hl 0 rfl) ?_
  refine va_get (D := G.1) (ci := 2) (v := .int (ov (ebF en ch))) (C := RX2) (T := TX2) (N := 4) hx hb hts w_0 hown hE.1 hP 0 rfl rfl 3 (by decide) w_4 (fun _ h9 => h9) rfl dX2_add_35 ?_
  refine lv_iconst (v := -1) hx hb dX2_add_38 (by decide +kernel) ?_
  refine lv_icmp_eq (tgt := 52) hx hb dX2_add_39 (by decide) (fun c39 => ?_) (fun c39 => ?_)
  · skip
    exact W.vret hx hb hr (fun t ht hW => ⟨rfl, by rw [ht]; exact (by rw [show rtN rt (ebF en ch) = rt from if_pos ((eb_no eOk_F).mp c39)]; exact ⟨hP, hD⟩), hS.F ht⟩) hS.2.2 dX2_add_52
  · skip
    refine lv_aload_n hx hb dX2_add_42 rfl (lv_at hl 0 rfl) ?_
    refine lv_dup hx hb dX2_add_43 rfl ?_
    refine va_get (D := G.1) (ci := 2) (v := .int (nI rt)) (C := RX2) (T := TX2) (N := 4) hx hb hts w_0 hown hE.1 hP 0 rfl rfl 2 (by decide) w_5 (fun _ h9 => h9) rfl dX2_add_44 ?_
    refine lv_iconst (v := nI 1) hx hb dX2_add_47 (by decide +kernel) ?_
    refine iaddN hx hb dX2_add_48 ?_
    refine va_put (D := G.1) (ci := 2) (v := .int (nI (rt + 1))) (ty := .int) (C := RX2) (T := TX2) (N := 4) hx hb hts w_0 tyX2 tyX2_ok nmX2 hown hE.1 hP hD hS 0 rfl rfl 2 (by decide) w_5 (fun _ h9 => h9) rfl (by decide +kernel) rfl rfl (Nat.le_of_ble_eq_true rfl) dX2_add_49 (fun H locs hP hD hS => ?_)
    have hP : va_P G.1 vwCl [(oa, .inr (2, [.ref co, .int (nI (len + 1)), .int (nI (rt + 1)), .int (ov (ebF en ch))])), (co, .inl (G.2.1, 60, .inl (upd tx len (nI ch))))] H := hP
    have hD : va_D A [(oa, .inr (2, [.ref co, .int (nI (len + 1)), .int (nI (rt + 1)), .int (ov (ebF en ch))])), (co, .inl (G.2.1, 60, .inl (upd tx len (nI ch))))] := hD
    exact W.vret hx hb hr (fun t ht hW => ⟨rfl, by rw [ht]; exact (by rw [show rtN rt (ebF en ch) = rt + 1 from if_neg (fun q => c39 ((eb_no eOk_F).mpr q))]; exact ⟨hP, hD⟩), hS.F ht⟩) hS.2.2 dX2_add_52

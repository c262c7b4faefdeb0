/-! looks of the class -/
theorem tout {hi : Nat} {p : Int32} (hh : hi < 2147483648) (h : ¬ (nI 0 ≤ p ∧ p ≤ nI hi)) : p.toInt < 0 ∨ (hi : Int) < p.toInt := by
  rw [Int32.le_iff_toInt_le, Int32.le_iff_toInt_le, nI_toInt (by omega), nI_toInt hh] at h
  omega
theorem wk_t {f : Nat → Int32} {k : Nat} (h : fRes f (wkN f k) ≤ fRes f k) : wkN f (k + 1) = wkN f k := if_pos h
theorem wk_f {f : Nat → Int32} {k : Nat} (h : ¬ fRes f (wkN f k) ≤ fRes f k) : wkN f (k + 1) = k := if_neg h
theorem bN_t {f : Nat → Int32} {k : Nat} (h : bL f k ≤ gH f k) : bN f (k + 1) = bN f k := if_pos h
theorem bN_f {f : Nat → Int32} {k : Nat} (h : ¬ bL f k ≤ gH f k) : bN f (k + 1) = k := if_neg h
theorem bL_t {f : Nat → Int32} {k : Nat} (h : bL f k ≤ gH f k) : bL f (k + 1) = bL f k := if_pos h
theorem bL_f {f : Nat → Int32} {k : Nat} (h : ¬ bL f k ≤ gH f k) : bL f (k + 1) = gH f k := if_neg h

set_option maxHeartbeats 4000000 in
set_option maxRecDepth 100000 in
theorem c_X5_currentOf_ok (l : Launch) (G : eG) (fe ta sa ha oa : Nat) (hsn : Int32) (an : Nat → Nat) (f : Nat → Int32) (v0 v1 : Int32) (w : Nat → Nat → Int32) (h : Nat) (hh : h < 24) : Met l yX5_currentOf wsX5_currentOf ({ frames := 1, cells := 0, slots := 0, locals := 22 }) (PC [.ref fe, .int (nI h)] G (fun H => va_P G.1 vwCl ([(fe, .inr (5, [.ref (an 0), .ref ta, .ref sa, .ref ha, .ref oa, .int hsn]))] ++ (cST G an f v0 v1 w ++ ([]))) H)) (PQ (some (.int (f (3 + h))))) 0 0 noA := by
  refine ofB (cc := cX5_currentOf) (maxL := 2) (ret := (some .int)) (by decide) rfl (Nat.le_of_ble_eq_true rfl) ?_
  intro p e s m below meth c hx hb hr hlocks hml hown hin hts hE hI ls hl
  replace hown : s.vm.findClass RX5 = some m.cls := hown
  have hl : lv_has ls 2 [(0, .ref fe), (1, .int (nI h))] := hl
  have hP : va_P G.1 vwCl ([(fe, .inr (5, [.ref (an 0), .ref ta, .ref sa, .ref ha, .ref oa, .int hsn]))] ++ (cST G an f v0 v1 w ++ ([]))) s.heap := hI
  have w_0 : ∀ w ∈ u_ws RX5 TX5 6, w ∈ wsX5_currentOf := by decide +kernel
  have w_1 := hts (.fieldLink RX5 10 "CableFerry" "now" "LCableFerry$State;") (by decide +kernel)
  have w_2 : ∀ w ∈ u_ws RX3 TX3 14, w ∈ wsX5_currentOf := by decide +kernel
  have w_3 := hts (.fieldLink RX5 60 "CableFerry$State" "currents" "[I") (by decide +kernel)
  skip
  refine lv_iload_n hx hb dX5_currentOf_0 rfl (lv_at hl 1 rfl) ?_
  refine lv_iconst (v := nI 0) hx hb dX5_currentOf_1 (by decide +kernel) ?_
  refine lv_bipush (v := nI 23) hx hb dX5_currentOf_2 (by decide +kernel) ?_
  refine pcall (st1 := [.int (b2 ((nI 0) ≤ (nI h) ∧ (nI h) ≤ (nI 23)))]) (va_runS (As := [.int (nI h), .int (nI 0), .int (nI 23)]) (rest := []) ⟨hx, hb, hml, hown, hts⟩ (c_X5_isWithin l G (nI h) (nI 0) (nI 23)) (va_cwS 3 hts gX5_currentOf_X5_isWithin rfl rfl rfl (by decide +kernel) ⟨Nat.le_of_ble_eq_true rfl, Nat.le_of_ble_eq_true rfl⟩) (PC.preS hE P_nil) rfl rfl hl.1 rfl (lv_room (Nat.le_of_ble_eq_true rfl)) dX5_currentOf_4 ⟨Nat.zero_le _, Nat.zero_le _⟩) rfl ?_
  refine tI (y := nI 1) (b2_t (inN (by omega) (by omega) (by decide))) ?_
  refine lv_if_ne (tgt := 20) hx hb dX5_currentOf_7 (by decide) (fun c7 => ?_) (fun c7 => ?_)
  · skip
    refine lv_aload_n hx hb dX5_currentOf_20 rfl (lv_at hl 0 rfl) ?_
    refine va_get (D := G.1) (ci := 5) (v := .ref (an 0)) (C := RX5) (T := TX5) (N := 6) hx hb hts w_0 hown hE.1 hP 0 rfl rfl 0 (by decide) w_1 (fun _ h9 => h9) rfl dX5_currentOf_21 ?_
    replace hP : va_P G.1 vwCl (cST G an f v0 v1 w ++ ([(fe, .inr (5, [.ref (an 0), .ref ta, .ref sa, .ref ha, .ref oa, .int hsn]))] ++ ([]))) s.heap := P_perm br1 hP
    refine va_get (D := G.1) (ci := 3) (v := .ref (an 1)) (C := RX3) (T := TX3) (N := 14) hx hb hts w_2 hown hE.1 hP 0 rfl rfl 0 (by decide) w_3 (fun _ h9 => h9) rfl dX5_currentOf_24 ?_
    refine lv_iload_n hx hb dX5_currentOf_27 rfl (lv_at hl 1 rfl) ?_
    refine pcall (st1 := [.int ((fun j => f (3 + j)) h)]) (va_runS (As := [.ref (an 1), .int (nI h)]) (rest := []) ⟨hx, hb, hml, hown, hts⟩ (c_X5_at l G (an 1) 24 (fun j => f (3 + j)) h (by omega) (by decide)) (va_cwS 2 hts gX5_currentOf_X5_at rfl rfl rfl (by decide +kernel) ⟨Nat.le_of_ble_eq_true rfl, Nat.le_of_ble_eq_true rfl⟩) (PC.preS hE (hP.sub [1] rfl)) rfl rfl hl.1 rfl (lv_room (Nat.le_of_ble_eq_true rfl)) dX5_currentOf_28 ⟨Nat.zero_le _, Nat.zero_le _⟩) rfl ?_
    refine tS (st' := [.int (f (3 + h))]) (congrArg (fun z => [Value.int z]) (rfl)) ?_
    exact W.iret hx hb hr (fun t ht hW => ⟨rfl, ht⟩) (fun _ h => nomatch h) dX5_currentOf_31
  · skip
    exact absurd c7 (by decide)
set_option maxHeartbeats 4000000 in
set_option maxRecDepth 100000 in
theorem c_X5_setting_ok (l : Launch) (G : eG) (fe ta sa ha oa : Nat) (hsn : Int32) (an : Nat → Nat) (f : Nat → Int32) (v0 v1 : Int32) (w : Nat → Nat → Int32) (s0 : Nat) (hs3 : s0 < 3) : Met l yX5_setting wsX5_setting ({ frames := 1, cells := 0, slots := 0, locals := 22 }) (PC [.ref fe, .int (nI s0)] G (fun H => va_P G.1 vwCl ([(fe, .inr (5, [.ref (an 0), .ref ta, .ref sa, .ref ha, .ref oa, .int hsn]))] ++ (cST G an f v0 v1 w ++ ([]))) H)) (PQ (some (.int (f s0)))) 0 0 noA := by
  refine ofB (cc := cX5_setting) (maxL := 2) (ret := (some .int)) (by decide) rfl (Nat.le_of_ble_eq_true rfl) ?_
  intro p e s m below meth c hx hb hr hlocks hml hown hin hts hE hI ls hl
  replace hown : s.vm.findClass RX5 = some m.cls := hown
  have hl : lv_has ls 2 [(0, .ref fe), (1, .int (nI s0))] := hl
  have hP : va_P G.1 vwCl ([(fe, .inr (5, [.ref (an 0), .ref ta, .ref sa, .ref ha, .ref oa, .int hsn]))] ++ (cST G an f v0 v1 w ++ ([]))) s.heap := hI
  have w_0 : ∀ w ∈ u_ws RX5 TX5 6, w ∈ wsX5_setting := by decide +kernel
  have w_1 := hts (.fieldLink RX5 10 "CableFerry" "now" "LCableFerry$State;") (by decide +kernel)
  have w_2 : ∀ w ∈ u_ws RX3 TX3 14, w ∈ wsX5_setting := by decide +kernel
  have w_3 := hts (.fieldLink RX5 160 "CableFerry$State" "settings" "[I") (by decide +kernel)
  skip
  refine lv_iload_n hx hb dX5_setting_0 rfl (lv_at hl 1 rfl) ?_
  refine lv_iconst (v := nI 0) hx hb dX5_setting_1 (by decide +kernel) ?_
  refine lv_iconst (v := nI 2) hx hb dX5_setting_2 (by decide +kernel) ?_
  refine pcall (st1 := [.int (b2 ((nI 0) ≤ (nI s0) ∧ (nI s0) ≤ (nI 2)))]) (va_runS (As := [.int (nI s0), .int (nI 0), .int (nI 2)]) (rest := []) ⟨hx, hb, hml, hown, hts⟩ (c_X5_isWithin l G (nI s0) (nI 0) (nI 2)) (va_cwS 3 hts gX5_setting_X5_isWithin rfl rfl rfl (by decide +kernel) ⟨Nat.le_of_ble_eq_true rfl, Nat.le_of_ble_eq_true rfl⟩) (PC.preS hE P_nil) rfl rfl hl.1 rfl (lv_room (Nat.le_of_ble_eq_true rfl)) dX5_setting_3 ⟨Nat.zero_le _, Nat.zero_le _⟩) rfl ?_
  refine tI (y := nI 1) (b2_t (inN (by omega) (by omega) (by decide))) ?_
  refine lv_if_ne (tgt := 19) hx hb dX5_setting_6 (by decide) (fun c6 => ?_) (fun c6 => ?_)
  · skip
    refine lv_aload_n hx hb dX5_setting_19 rfl (lv_at hl 0 rfl) ?_
    refine va_get (D := G.1) (ci := 5) (v := .ref (an 0)) (C := RX5) (T := TX5) (N := 6) hx hb hts w_0 hown hE.1 hP 0 rfl rfl 0 (by decide) w_1 (fun _ h9 => h9) rfl dX5_setting_20 ?_
    replace hP : va_P G.1 vwCl (cST G an f v0 v1 w ++ ([(fe, .inr (5, [.ref (an 0), .ref ta, .ref sa, .ref ha, .ref oa, .int hsn]))] ++ ([]))) s.heap := P_perm br1 hP
    refine va_get (D := G.1) (ci := 3) (v := .ref (an 2)) (C := RX3) (T := TX3) (N := 14) hx hb hts w_2 hown hE.1 hP 0 rfl rfl 1 (by decide) w_3 (fun _ h9 => h9) rfl dX5_setting_23 ?_
    refine lv_iload_n hx hb dX5_setting_26 rfl (lv_at hl 1 rfl) ?_
    refine pcall (st1 := [.int (f s0)]) (va_runS (As := [.ref (an 2), .int (nI s0)]) (rest := []) ⟨hx, hb, hml, hown, hts⟩ (c_X5_at l G (an 2) 3 f s0 (by omega) (by decide)) (va_cwS 2 hts gX5_setting_X5_at rfl rfl rfl (by decide +kernel) ⟨Nat.le_of_ble_eq_true rfl, Nat.le_of_ble_eq_true rfl⟩) (PC.preS hE (hP.sub [2] rfl)) rfl rfl hl.1 rfl (lv_room (Nat.le_of_ble_eq_true rfl)) dX5_setting_27 ⟨Nat.zero_le _, Nat.zero_le _⟩) rfl ?_
    exact W.iret hx hb hr (fun t ht hW => ⟨rfl, ht⟩) (fun _ h => nomatch h) dX5_setting_30
  · skip
    exact absurd c6 (by decide)
set_option maxHeartbeats 4000000 in
set_option maxRecDepth 100000 in
theorem c_X5_currentOf_e1 (l : Launch) (hlt : l.stackTraces = false) (G : eG) (fe : Nat) (p0 : Int32) (hNo : ¬ (nI 0 ≤ p0 ∧ p0 ≤ nI 23)) : vx_Met l yX5_currentOf wsX5_currentOf ({ frames := 6, cells := 1, slots := 6, locals := 82 }) (PJ [.ref fe, .int p0] G (fun H => va_P G.1 vwCl [] H)) QF (XE "java/lang/IndexOutOfBoundsException") 1 6 noA := by
  refine ofBX (cc := cX5_currentOf) (maxL := 2) (ret := (some .int)) (by decide) rfl (Nat.le_of_ble_eq_true rfl) ?_
  intro p e s m below meth c hx hb hr hlocks hml hown hin hts hE hJ hI ht ls hl
  replace hown : s.vm.findClass RX5 = some m.cls := hown
  have hl : lv_has ls 2 [(0, .ref fe), (1, .int p0)] := hl
  have hP : va_P G.1 vwCl [] s.heap := hI
  skip
  refine lv_iload_n hx hb dX5_currentOf_0 rfl (lv_at hl 1 rfl) ?_
  refine lv_iconst (v := nI 0) hx hb dX5_currentOf_1 (by decide +kernel) ?_
  refine lv_bipush (v := nI 23) hx hb dX5_currentOf_2 (by decide +kernel) ?_
  refine pcall (st1 := [.int (b2 ((nI 0) ≤ p0 ∧ p0 ≤ (nI 23)))]) (va_runS (As := [.int p0, .int (nI 0), .int (nI 23)]) (rest := []) ⟨hx, hb, hml, hown, hts⟩ (c_X5_isWithin l G p0 (nI 0) (nI 23)) (va_cwS 3 hts gX5_currentOf_X5_isWithin rfl rfl rfl (by decide +kernel) ⟨Nat.le_of_ble_eq_true rfl, Nat.le_of_ble_eq_true rfl⟩) (PC.preS hE P_nil) rfl rfl hl.1 rfl (lv_room (Nat.le_of_ble_eq_true rfl)) dX5_currentOf_4 ⟨Nat.zero_le _, Nat.zero_le _⟩) rfl ?_
  refine tI (y := nI 0) (b2_f hNo) ?_
  refine lv_if_ne (tgt := 20) hx hb dX5_currentOf_7 (by decide) (fun c7 => ?_) (fun c7 => ?_)
  · skip
    exact absurd c7 (by decide)
  · skip
    exact xthrow (text := "no such hour of the day") hx hb hlt hown rfl (by decide +kernel) (by decide +kernel) hts (by decide +kernel) (by decide +kernel) (fun _ h => List.mem_cons_of_mem _ (List.mem_append_right _ h)) (by decide +kernel) xg_IOB.1 xg_IOB.2 hJ (hl.1.trans hml.symm) dX5_currentOf_10 dX5_currentOf_13 dX5_currentOf_14 dX5_currentOf_16 dX5_currentOf_19 ht (Nat.le_of_ble_eq_true rfl) (Nat.le_of_ble_eq_true rfl) (Nat.le_of_ble_eq_true rfl) (Nat.le_of_ble_eq_true rfl) hlocks
set_option maxHeartbeats 4000000 in
set_option maxRecDepth 100000 in
theorem c_X5_setting_e1 (l : Launch) (hlt : l.stackTraces = false) (G : eG) (fe : Nat) (p0 : Int32) (hNo : ¬ (nI 0 ≤ p0 ∧ p0 ≤ nI 2)) : vx_Met l yX5_setting wsX5_setting ({ frames := 6, cells := 1, slots := 6, locals := 82 }) (PJ [.ref fe, .int p0] G (fun H => va_P G.1 vwCl [] H)) QF (XE "java/lang/IndexOutOfBoundsException") 1 6 noA := by
  refine ofBX (cc := cX5_setting) (maxL := 2) (ret := (some .int)) (by decide) rfl (Nat.le_of_ble_eq_true rfl) ?_
  intro p e s m below meth c hx hb hr hlocks hml hown hin hts hE hJ hI ht ls hl
  replace hown : s.vm.findClass RX5 = some m.cls := hown
  have hl : lv_has ls 2 [(0, .ref fe), (1, .int p0)] := hl
  have hP : va_P G.1 vwCl [] s.heap := hI
  skip
  refine lv_iload_n hx hb dX5_setting_0 rfl (lv_at hl 1 rfl) ?_
  refine lv_iconst (v := nI 0) hx hb dX5_setting_1 (by decide +kernel) ?_
  refine lv_iconst (v := nI 2) hx hb dX5_setting_2 (by decide +kernel) ?_
  refine pcall (st1 := [.int (b2 ((nI 0) ≤ p0 ∧ p0 ≤ (nI 2)))]) (va_runS (As := [.int p0, .int (nI 0), .int (nI 2)]) (rest := []) ⟨hx, hb, hml, hown, hts⟩ (c_X5_isWithin l G p0 (nI 0) (nI 2)) (va_cwS 3 hts gX5_setting_X5_isWithin rfl rfl rfl (by decide +kernel) ⟨Nat.le_of_ble_eq_true rfl, Nat.le_of_ble_eq_true rfl⟩) (PC.preS hE P_nil) rfl rfl hl.1 rfl (lv_room (Nat.le_of_ble_eq_true rfl)) dX5_setting_3 ⟨Nat.zero_le _, Nat.zero_le _⟩) rfl ?_
  refine tI (y := nI 0) (b2_f hNo) ?_
  refine lv_if_ne (tgt := 19) hx hb dX5_setting_6 (by decide) (fun c6 => ?_) (fun c6 => ?_)
  · skip
    exact absurd c6 (by decide)
  · skip
    exact xthrow (text := "no such setting") hx hb hlt hown rfl (by decide +kernel) (by decide +kernel) hts (by decide +kernel) (by decide +kernel) (fun _ h => List.mem_cons_of_mem _ (List.mem_append_right _ h)) (by decide +kernel) xg_IOB.1 xg_IOB.2 hJ (hl.1.trans hml.symm) dX5_setting_9 dX5_setting_12 dX5_setting_13 dX5_setting_15 dX5_setting_18 ht (Nat.le_of_ble_eq_true rfl) (Nat.le_of_ble_eq_true rfl) (Nat.le_of_ble_eq_true rfl) (Nat.le_of_ble_eq_true rfl) hlocks
set_option maxHeartbeats 4000000 in
set_option maxRecDepth 100000 in
theorem c_X5_section_ok (l : Launch) (G : eG) (fe ta sa ha oa : Nat) (hsn : Int32) (an : Nat → Nat) (f : Nat → Int32) (v0 v1 : Int32) (w : Nat → Nat → Int32) (hs : Shp f) (k x : Nat) (hk : k < 20) (hw : x < 3) : Met l yX5_section wsX5_section ({ frames := 3, cells := 0, slots := 0, locals := 68 }) (PC [.ref fe, .int (nI k), .int (nI x)] G (fun H => va_P G.1 vwCl ([(fe, .inr (5, [.ref (an 0), .ref ta, .ref sa, .ref ha, .ref oa, .int hsn]))] ++ (cST G an f v0 v1 w ++ ([]))) H)) (PQ (some (.int (fOf f k x)))) 0 0 noA := by
  refine ofB (cc := cX5_section) (maxL := 3) (ret := (some .int)) (by decide) rfl (Nat.le_of_ble_eq_true rfl) ?_
  intro p e s m below meth c hx hb hr hlocks hml hown hin hts hE hI ls hl
  replace hown : s.vm.findClass RX5 = some m.cls := hown
  have hl : lv_has ls 3 [(0, .ref fe), (1, .int (nI k)), (2, .int (nI x))] := hl
  have hP : va_P G.1 vwCl ([(fe, .inr (5, [.ref (an 0), .ref ta, .ref sa, .ref ha, .ref oa, .int hsn]))] ++ (cST G an f v0 v1 w ++ ([]))) s.heap := hI
  have w_0 : ∀ w ∈ u_ws RX5 TX5 6, w ∈ wsX5_section := by decide +kernel
  have w_1 := hts (.fieldLink RX5 10 "CableFerry" "now" "LCableFerry$State;") (by decide +kernel)
  have w_2 : ∀ w ∈ u_ws RX3 TX3 14, w ∈ wsX5_section := by decide +kernel
  have w_3 := hts (.fieldLink RX5 141 "CableFerry$State" "wire" "LCableFerry$Wire;") (by decide +kernel)
  skip
  rcases (show x = 0 ∨ x = 1 ∨ x = 2 by omega) with rfl | rfl | rfl
  · skip
    have hl : lv_has ls 3 [(0, .ref fe), (1, .int (nI k)), (2, .int (nI 0))] := hl
    refine lv_iload_n hx hb dX5_section_0 rfl (lv_at hl 1 rfl) ?_
    refine lv_iconst (v := nI 0) hx hb dX5_section_1 (by decide +kernel) ?_
    refine lv_bipush (v := nI 19) hx hb dX5_section_2 (by decide +kernel) ?_
    refine pcall (st1 := [.int (b2 ((nI 0) ≤ (nI k) ∧ (nI k) ≤ (nI 19)))]) (va_runS (As := [.int (nI k), .int (nI 0), .int (nI 19)]) (rest := []) ⟨hx, hb, hml, hown, hts⟩ (c_X5_isWithin l G (nI k) (nI 0) (nI 19)) (va_cwS 3 hts gX5_section_X5_isWithin rfl rfl rfl (by decide +kernel) ⟨Nat.le_of_ble_eq_true rfl, Nat.le_of_ble_eq_true rfl⟩) (PC.preS hE P_nil) rfl rfl hl.1 rfl (lv_room (Nat.le_of_ble_eq_true rfl)) dX5_section_4 ⟨Nat.zero_le _, Nat.zero_le _⟩) rfl ?_
    refine tI (y := nI 1) (b2_t (inN (by omega) (by omega) (by decide))) ?_
    refine lv_if_ne (tgt := 20) hx hb dX5_section_7 (by decide) (fun c7 => ?_) (fun c7 => ?_)
    · skip
      refine lv_iload_n hx hb dX5_section_20 rfl (lv_at hl 2 rfl) ?_
      refine lv_tableIn (off := 27) (tgt := 48) hx hb dX5_section_21 (by decide +kernel) (by decide +kernel) (by decide +kernel) (by decide) ?_
      refine lv_aload_n hx hb dX5_section_48 rfl (lv_at hl 0 rfl) ?_
      refine va_get (D := G.1) (ci := 5) (v := .ref (an 0)) (C := RX5) (T := TX5) (N := 6) hx hb hts w_0 hown hE.1 hP 0 rfl rfl 0 (by decide) w_1 (fun _ h9 => h9) rfl dX5_section_49 ?_
      replace hP : va_P G.1 vwCl (cST G an f v0 v1 w ++ ([(fe, .inr (5, [.ref (an 0), .ref ta, .ref sa, .ref ha, .ref oa, .int hsn]))] ++ ([]))) s.heap := P_perm br1 hP
      refine va_get (D := G.1) (ci := 3) (v := .ref (an 15)) (C := RX3) (T := TX3) (N := 14) hx hb hts w_2 hown hE.1 hP 0 rfl rfl 6 (by decide) w_3 (fun _ h9 => h9) rfl dX5_section_52 ?_
      refine lv_iload_n hx hb dX5_section_55 rfl (lv_at hl 1 rfl) ?_
      refine pcall (st1 := [.int (f (27 + k))]) (va_runV (As := [.int (nI k)]) (rest := []) ⟨hx, hb, hml, hown, hts⟩ (c_X4_wearOf l G (an 15) (an 16) f k (by omega)) (cwV 1 hts gX5_section_X4_wearOf rfl rfl rfl (by decide +kernel) ⟨Nat.le_of_ble_eq_true rfl, Nat.le_of_ble_eq_true rfl⟩) (PC.preV hE (va_recv hE.1 hP (ci := 4) (q0 := 15) rfl rfl) (hP.sub [15, 16] rfl)) rfl rfl hl.1 rfl (lv_room (Nat.le_of_ble_eq_true rfl)) dX5_section_56 ⟨Nat.zero_le _, Nat.zero_le _⟩) rfl ?_
      refine tS (st' := [.int (fOf f k 0)]) (congrArg (fun z => [Value.int z]) (rfl)) ?_
      exact W.iret hx hb hr (fun t ht hW => ⟨rfl, ht⟩) (fun _ h => nomatch h) dX5_section_59
    · skip
      exact absurd c7 (by decide)
  · skip
    have hl : lv_has ls 3 [(0, .ref fe), (1, .int (nI k)), (2, .int (nI 1))] := hl
    refine lv_iload_n hx hb dX5_section_0 rfl (lv_at hl 1 rfl) ?_
    refine lv_iconst (v := nI 0) hx hb dX5_section_1 (by decide +kernel) ?_
    refine lv_bipush (v := nI 19) hx hb dX5_section_2 (by decide +kernel) ?_
    refine pcall (st1 := [.int (b2 ((nI 0) ≤ (nI k) ∧ (nI k) ≤ (nI 19)))]) (va_runS (As := [.int (nI k), .int (nI 0), .int (nI 19)]) (rest := []) ⟨hx, hb, hml, hown, hts⟩ (c_X5_isWithin l G (nI k) (nI 0) (nI 19)) (va_cwS 3 hts gX5_section_X5_isWithin rfl rfl rfl (by decide +kernel) ⟨Nat.le_of_ble_eq_true rfl, Nat.le_of_ble_eq_true rfl⟩) (PC.preS hE P_nil) rfl rfl hl.1 rfl (lv_room (Nat.le_of_ble_eq_true rfl)) dX5_section_4 ⟨Nat.zero_le _, Nat.zero_le _⟩) rfl ?_
    refine tI (y := nI 1) (b2_t (inN (by omega) (by omega) (by decide))) ?_
    refine lv_if_ne (tgt := 20) hx hb dX5_section_7 (by decide) (fun c7 => ?_) (fun c7 => ?_)
    · skip
      refine lv_iload_n hx hb dX5_section_20 rfl (lv_at hl 2 rfl) ?_
      refine lv_tableIn (off := 39) (tgt := 60) hx hb dX5_section_21 (by decide +kernel) (by decide +kernel) (by decide +kernel) (by decide) ?_
      refine lv_aload_n hx hb dX5_section_60 rfl (lv_at hl 0 rfl) ?_
      refine va_get (D := G.1) (ci := 5) (v := .ref (an 0)) (C := RX5) (T := TX5) (N := 6) hx hb hts w_0 hown hE.1 hP 0 rfl rfl 0 (by decide) w_1 (fun _ h9 => h9) rfl dX5_section_61 ?_
      refine lv_iload_n hx hb dX5_section_64 rfl (lv_at hl 1 rfl) ?_
      replace hP : va_P G.1 vwCl (cST G an f v0 v1 w ++ ([(fe, .inr (5, [.ref (an 0), .ref ta, .ref sa, .ref ha, .ref oa, .int hsn]))] ++ ([]))) s.heap := P_perm br1 hP
      refine pcall (st1 := [.int (fStr f k)]) (va_runV (As := [.int (nI k)]) (rest := []) ⟨hx, hb, hml, hown, hts⟩ (c_X3_strengthOf l G (an 0) (an 1) (an 2) (an 3) (an 6) (an 9) (an 10) (an 11) (an 12) (an 13) (an 14) (an 15) (an 16) f k (by omega)) (cwV 1 hts gX5_section_X3_strengthOf rfl rfl rfl (by decide +kernel) ⟨Nat.le_of_ble_eq_true rfl, Nat.le_of_ble_eq_true rfl⟩) (PC.preV hE (va_recv hE.1 hP (ci := 3) (q0 := 0) rfl rfl) (hP.sub [0, 1, 2, 9, 12, 15, 16] rfl)) rfl rfl hl.1 rfl (lv_room (Nat.le_of_ble_eq_true rfl)) dX5_section_65 ⟨Nat.zero_le _, Nat.zero_le _⟩) rfl ?_
      refine tS (st' := [.int (fOf f k 1)]) (congrArg (fun z => [Value.int z]) (rfl)) ?_
      exact W.iret hx hb hr (fun t ht hW => ⟨rfl, ht⟩) (fun _ h => nomatch h) dX5_section_68
    · skip
      exact absurd c7 (by decide)
  · skip
    have hl : lv_has ls 3 [(0, .ref fe), (1, .int (nI k)), (2, .int (nI 2))] := hl
    refine lv_iload_n hx hb dX5_section_0 rfl (lv_at hl 1 rfl) ?_
    refine lv_iconst (v := nI 0) hx hb dX5_section_1 (by decide +kernel) ?_
    refine lv_bipush (v := nI 19) hx hb dX5_section_2 (by decide +kernel) ?_
    refine pcall (st1 := [.int (b2 ((nI 0) ≤ (nI k) ∧ (nI k) ≤ (nI 19)))]) (va_runS (As := [.int (nI k), .int (nI 0), .int (nI 19)]) (rest := []) ⟨hx, hb, hml, hown, hts⟩ (c_X5_isWithin l G (nI k) (nI 0) (nI 19)) (va_cwS 3 hts gX5_section_X5_isWithin rfl rfl rfl (by decide +kernel) ⟨Nat.le_of_ble_eq_true rfl, Nat.le_of_ble_eq_true rfl⟩) (PC.preS hE P_nil) rfl rfl hl.1 rfl (lv_room (Nat.le_of_ble_eq_true rfl)) dX5_section_4 ⟨Nat.zero_le _, Nat.zero_le _⟩) rfl ?_
    refine tI (y := nI 1) (b2_t (inN (by omega) (by omega) (by decide))) ?_
    refine lv_if_ne (tgt := 20) hx hb dX5_section_7 (by decide) (fun c7 => ?_) (fun c7 => ?_)
    · skip
      refine lv_iload_n hx hb dX5_section_20 rfl (lv_at hl 2 rfl) ?_
      refine lv_tableIn (off := 48) (tgt := 69) hx hb dX5_section_21 (by decide +kernel) (by decide +kernel) (by decide +kernel) (by decide) ?_
      refine lv_aload_n hx hb dX5_section_69 rfl (lv_at hl 0 rfl) ?_
      refine va_get (D := G.1) (ci := 5) (v := .ref (an 0)) (C := RX5) (T := TX5) (N := 6) hx hb hts w_0 hown hE.1 hP 0 rfl rfl 0 (by decide) w_1 (fun _ h9 => h9) rfl dX5_section_70 ?_
      refine lv_iload_n hx hb dX5_section_73 rfl (lv_at hl 1 rfl) ?_
      replace hP : va_P G.1 vwCl (cST G an f v0 v1 w ++ ([(fe, .inr (5, [.ref (an 0), .ref ta, .ref sa, .ref ha, .ref oa, .int hsn]))] ++ ([]))) s.heap := P_perm br1 hP
      refine pcall (st1 := [.int (fTen f k)]) (va_runV (As := [.int (nI k)]) (rest := []) ⟨hx, hb, hml, hown, hts⟩ (c_X3_tensionOf l G (an 0) (an 1) (an 2) (an 3) (an 6) (an 9) (an 10) (an 11) (an 12) (an 13) (an 14) (an 15) (an 16) f hs k (by omega)) (cwV 1 hts gX5_section_X3_tensionOf rfl rfl rfl (by decide +kernel) ⟨Nat.le_of_ble_eq_true rfl, Nat.le_of_ble_eq_true rfl⟩) (PC.preV hE (va_recv hE.1 hP (ci := 3) (q0 := 0) rfl rfl) (hP.sub [0, 1, 2, 9, 12, 15, 16] rfl)) rfl rfl hl.1 rfl (lv_room (Nat.le_of_ble_eq_true rfl)) dX5_section_74 ⟨Nat.zero_le _, Nat.zero_le _⟩) rfl ?_
      refine tS (st' := [.int (fOf f k 2)]) (congrArg (fun z => [Value.int z]) (rfl)) ?_
      exact W.iret hx hb hr (fun t ht hW => ⟨rfl, ht⟩) (fun _ h => nomatch h) dX5_section_77
    · skip
      exact absurd c7 (by decide)
set_option maxHeartbeats 4000000 in
set_option maxRecDepth 100000 in
theorem c_X5_section_e1 (l : Launch) (hlt : l.stackTraces = false) (G : eG) (fe : Nat) (p0 p1 : Int32) (hNo : ¬ (nI 0 ≤ p0 ∧ p0 ≤ nI 19)) : vx_Met l yX5_section wsX5_section ({ frames := 6, cells := 1, slots := 6, locals := 82 }) (PJ [.ref fe, .int p0, .int p1] G (fun H => va_P G.1 vwCl [] H)) QF (XE "java/lang/IndexOutOfBoundsException") 1 6 noA := by
  refine ofBX (cc := cX5_section) (maxL := 3) (ret := (some .int)) (by decide) rfl (Nat.le_of_ble_eq_true rfl) ?_
  intro p e s m below meth c hx hb hr hlocks hml hown hin hts hE hJ hI ht ls hl
  replace hown : s.vm.findClass RX5 = some m.cls := hown
  have hl : lv_has ls 3 [(0, .ref fe), (1, .int p0), (2, .int p1)] := hl
  have hP : va_P G.1 vwCl [] s.heap := hI
  skip
  refine lv_iload_n hx hb dX5_section_0 rfl (lv_at hl 1 rfl) ?_
  refine lv_iconst (v := nI 0) hx hb dX5_section_1 (by decide +kernel) ?_
  refine lv_bipush (v := nI 19) hx hb dX5_section_2 (by decide +kernel) ?_
  refine pcall (st1 := [.int (b2 ((nI 0) ≤ p0 ∧ p0 ≤ (nI 19)))]) (va_runS (As := [.int p0, .int (nI 0), .int (nI 19)]) (rest := []) ⟨hx, hb, hml, hown, hts⟩ (c_X5_isWithin l G p0 (nI 0) (nI 19)) (va_cwS 3 hts gX5_section_X5_isWithin rfl rfl rfl (by decide +kernel) ⟨Nat.le_of_ble_eq_true rfl, Nat.le_of_ble_eq_true rfl⟩) (PC.preS hE P_nil) rfl rfl hl.1 rfl (lv_room (Nat.le_of_ble_eq_true rfl)) dX5_section_4 ⟨Nat.zero_le _, Nat.zero_le _⟩) rfl ?_
  refine tI (y := nI 0) (b2_f hNo) ?_
  refine lv_if_ne (tgt := 20) hx hb dX5_section_7 (by decide) (fun c7 => ?_) (fun c7 => ?_)
  · skip
    exact absurd c7 (by decide)
  · skip
    exact xthrow (text := "no such section") hx hb hlt hown rfl (by decide +kernel) (by decide +kernel) hts (by decide +kernel) (by decide +kernel) (fun _ h => List.mem_cons_of_mem _ (List.mem_append_left _ (List.mem_append_right _ h))) (by decide +kernel) xg_IOB.1 xg_IOB.2 hJ (hl.1.trans hml.symm) dX5_section_10 dX5_section_13 dX5_section_14 dX5_section_16 dX5_section_19 ht (Nat.le_of_ble_eq_true rfl) (Nat.le_of_ble_eq_true rfl) (Nat.le_of_ble_eq_true rfl) (Nat.le_of_ble_eq_true rfl) hlocks
set_option maxHeartbeats 4000000 in
set_option maxRecDepth 100000 in
theorem c_X5_section_e2 (l : Launch) (hlt : l.stackTraces = false) (G : eG) (fe : Nat) (p0 p1 : Int32) (h1 : nI 0 ≤ p0 ∧ p0 ≤ nI 19) (hNo : ¬ (nI 0 ≤ p1 ∧ p1 ≤ nI 2)) : vx_Met l yX5_section wsX5_section ({ frames := 6, cells := 1, slots := 6, locals := 82 }) (PJ [.ref fe, .int p0, .int p1] G (fun H => va_P G.1 vwCl [] H)) QF (XE "java/lang/IllegalArgumentException") 1 6 noA := by
  refine ofBX (cc := cX5_section) (maxL := 3) (ret := (some .int)) (by decide) rfl (Nat.le_of_ble_eq_true rfl) ?_
  intro p e s m below meth c hx hb hr hlocks hml hown hin hts hE hJ hI ht ls hl
  replace hown : s.vm.findClass RX5 = some m.cls := hown
  have hl : lv_has ls 3 [(0, .ref fe), (1, .int p0), (2, .int p1)] := hl
  have hP : va_P G.1 vwCl [] s.heap := hI
  skip
  refine lv_iload_n hx hb dX5_section_0 rfl (lv_at hl 1 rfl) ?_
  refine lv_iconst (v := nI 0) hx hb dX5_section_1 (by decide +kernel) ?_
  refine lv_bipush (v := nI 19) hx hb dX5_section_2 (by decide +kernel) ?_
  refine pcall (st1 := [.int (b2 ((nI 0) ≤ p0 ∧ p0 ≤ (nI 19)))]) (va_runS (As := [.int p0, .int (nI 0), .int (nI 19)]) (rest := []) ⟨hx, hb, hml, hown, hts⟩ (c_X5_isWithin l G p0 (nI 0) (nI 19)) (va_cwS 3 hts gX5_section_X5_isWithin rfl rfl rfl (by decide +kernel) ⟨Nat.le_of_ble_eq_true rfl, Nat.le_of_ble_eq_true rfl⟩) (PC.preS hE P_nil) rfl rfl hl.1 rfl (lv_room (Nat.le_of_ble_eq_true rfl)) dX5_section_4 ⟨Nat.zero_le _, Nat.zero_le _⟩) rfl ?_
  refine tI (y := nI 1) (b2_t h1) ?_
  refine lv_if_ne (tgt := 20) hx hb dX5_section_7 (by decide) (fun c7 => ?_) (fun c7 => ?_)
  · skip
    refine lv_iload_n hx hb dX5_section_20 rfl (lv_at hl 2 rfl) ?_
    refine lv_tableOut (tgt := 78) hx hb dX5_section_21 (tout (hi := 2) (by decide) hNo) (by decide) ?_
    exact xthrow (text := "what is not 0 to 2") hx hb hlt hown rfl (by decide +kernel) (by decide +kernel) hts (by decide +kernel) (by decide +kernel) (fun _ h => List.mem_cons_of_mem _ (List.mem_append_right _ h)) (by decide +kernel) xg_IAE.1 xg_IAE.2 hJ (hl.1.trans hml.symm) dX5_section_78 dX5_section_81 dX5_section_82 dX5_section_84 dX5_section_87 ht (Nat.le_of_ble_eq_true rfl) (Nat.le_of_ble_eq_true rfl) (Nat.le_of_ble_eq_true rfl) (Nat.le_of_ble_eq_true rfl) hlocks
  · skip
    exact absurd c7 (by decide)
set_option maxHeartbeats 4000000 in
set_option maxRecDepth 100000 in
theorem c_X5_waiting_in (l : Launch) (G : eG) (fe ta sa ha oa : Nat) (hsn : Int32) (an : Nat → Nat) (f : Nat → Int32) (v0 v1 : Int32) (w : Nat → Nat → Int32) (hs : Shp f) (hcp : CplW f w) (b j : Nat) (hb2 : b < 2) (hj : j < 2147483648) (hjq : j < nn f (57 + 11 * b)) : Met l yX5_waiting wsX5_waiting ({ frames := 2, cells := 0, slots := 0, locals := 42 }) (PC [.ref fe, .int (nI b), .int (nI j)] G (fun H => va_P G.1 vwCl ([(fe, .inr (5, [.ref (an 0), .ref ta, .ref sa, .ref ha, .ref oa, .int hsn]))] ++ (cST G an f v0 v1 w ++ ([]))) H)) (PQ (some (.int (f (((57 + (11 * b)) + 1) + j))))) 0 0 noA := by
  refine ofB (cc := cX5_waiting) (maxL := 3) (ret := (some .int)) (by decide) rfl (Nat.le_of_ble_eq_true rfl) ?_
  intro p e s m below meth c hx hb hr hlocks hml hown hin hts hE hI ls hl
  replace hown : s.vm.findClass RX5 = some m.cls := hown
  have hl : lv_has ls 3 [(0, .ref fe), (1, .int (nI b)), (2, .int (nI j))] := hl
  have hP : va_P G.1 vwCl ([(fe, .inr (5, [.ref (an 0), .ref ta, .ref sa, .ref ha, .ref oa, .int hsn]))] ++ (cST G an f v0 v1 w ++ ([]))) s.heap := hI
  have w_0 : ∀ w ∈ u_ws RX5 TX5 6, w ∈ wsX5_waiting := by decide +kernel
  have w_1 := hts (.fieldLink RX5 10 "CableFerry" "now" "LCableFerry$State;") (by decide +kernel)
  have q0 : nn f 57 ≤ 10 := (hs.2.1 0 (by omega)).2
  have q1 : nn f 68 ≤ 10 := (hs.2.1 1 (by omega)).2
  have n0 : nn f 79 ≤ 4 := (hs.1 0 (by omega)).2
  have n1 : nn f 88 ≤ 4 := (hs.1 1 (by omega)).2
  obtain ⟨h51, h51b⟩ := hs.2.2.1
  rcases (show b = 0 ∨ b = 1 by omega) with rfl | rfl
  · skip
    have hl : lv_has ls 3 [(0, .ref fe), (1, .int (nI 0)), (2, .int (nI j))] := hl
    have hjq9 : j < nn f 57 := hjq
    refine lv_iload_n hx hb dX5_waiting_0 rfl (lv_at hl 1 rfl) ?_
    refine lv_iconst (v := nI 0) hx hb dX5_waiting_1 (by decide +kernel) ?_
    refine lv_iconst (v := nI 1) hx hb dX5_waiting_2 (by decide +kernel) ?_
    refine pcall (st1 := [.int (b2 ((nI 0) ≤ (nI 0) ∧ (nI 0) ≤ (nI 1)))]) (va_runS (As := [.int (nI 0), .int (nI 0), .int (nI 1)]) (rest := []) ⟨hx, hb, hml, hown, hts⟩ (c_X5_isWithin l G (nI 0) (nI 0) (nI 1)) (va_cwS 3 hts gX5_waiting_X5_isWithin rfl rfl rfl (by decide +kernel) ⟨Nat.le_of_ble_eq_true rfl, Nat.le_of_ble_eq_true rfl⟩) (PC.preS hE P_nil) rfl rfl hl.1 rfl (lv_room (Nat.le_of_ble_eq_true rfl)) dX5_waiting_3 ⟨Nat.zero_le _, Nat.zero_le _⟩) rfl ?_
    refine tI (y := nI 1) (b2_t (inN (by omega) (by omega) (by decide))) ?_
    refine lv_if_ne (tgt := 19) hx hb dX5_waiting_6 (by decide) (fun c6 => ?_) (fun c6 => ?_)
    · skip
      refine lv_iload_n hx hb dX5_waiting_19 rfl (lv_at hl 2 rfl) ?_
      refine lv_if_ge (tgt := 33) hx hb dX5_waiting_20 (by decide) (fun c20 => ?_) (fun c20 => ?_)
      · skip
        refine lv_aload_n hx hb dX5_waiting_33 rfl (lv_at hl 0 rfl) ?_
        refine va_get (D := G.1) (ci := 5) (v := .ref (an 0)) (C := RX5) (T := TX5) (N := 6) hx hb hts w_0 hown hE.1 hP 0 rfl rfl 0 (by decide) w_1 (fun _ h9 => h9) rfl dX5_waiting_34 ?_
        refine lv_iload_n hx hb dX5_waiting_37 rfl (lv_at hl 1 rfl) ?_
        replace hP : va_P G.1 vwCl (cST G an f v0 v1 w ++ ([(fe, .inr (5, [.ref (an 0), .ref ta, .ref sa, .ref ha, .ref oa, .int hsn]))] ++ ([]))) s.heap := P_perm br1 hP
        refine pcall (st1 := [.ref (an 3)]) (va_runV (As := [.int (nI 0)]) (rest := []) ⟨hx, hb, hml, hown, hts⟩ (c_X3_lineAtBank_0 l G (an 0) (an 1) (an 2) (an 3) (an 6) (an 9) (an 12) (an 15) (f 50) (f 51) (f 52) (f 53) (f 54) (f 55) (f 56)) (cwV 1 hts gX5_waiting_X3_lineAtBank rfl rfl rfl (by decide +kernel) ⟨Nat.le_of_ble_eq_true rfl, Nat.le_of_ble_eq_true rfl⟩) (PC.preV hE (va_recv hE.1 hP (ci := 3) (q0 := 0) rfl rfl) (hP.sub [0] rfl)) rfl rfl hl.1 rfl (lv_room (Nat.le_of_ble_eq_true rfl)) dX5_waiting_38 ⟨Nat.zero_le _, Nat.zero_le _⟩) rfl ?_
        refine lv_iload_n hx hb dX5_waiting_41 rfl (lv_at hl 2 rfl) ?_
        refine pcall (st1 := [.int ((w 0) j)]) (va_runV (As := [.int (nI j)]) (rest := []) ⟨hx, hb, hml, hown, hts⟩ (c_X1_weightOf l G (an 3) (an 4) (an 5) 10 (nn f 57) v0 (w 0) (w 1) (by omega) (by omega) j hjq9) (cwV 1 hts gX5_waiting_X1_weightOf rfl rfl rfl (by decide +kernel) ⟨Nat.le_of_ble_eq_true rfl, Nat.le_of_ble_eq_true rfl⟩) (PC.preV hE (va_recv hE.1 hP (ci := 1) (q0 := 3) rfl rfl) (hP.sub [3, 4, 5] rfl)) rfl rfl hl.1 rfl (lv_room (Nat.le_of_ble_eq_true rfl)) dX5_waiting_42 ⟨Nat.zero_le _, Nat.zero_le _⟩) rfl ?_
        refine tS (st' := [.int (f (((57 + (11 * 0)) + 1) + j))]) (congrArg (fun z => [Value.int z]) ((hcp.1 j hjq9).trans (congrArg f (by omega)))) ?_
        exact W.iret hx hb hr (fun t ht hW => ⟨rfl, ht⟩) (fun _ h => nomatch h) dX5_waiting_45
      · skip
        exact absurd (nI_pos' hj) c20
    · skip
      exact absurd c6 (by decide)
  · skip
    have hl : lv_has ls 3 [(0, .ref fe), (1, .int (nI 1)), (2, .int (nI j))] := hl
    have hjq9 : j < nn f 68 := hjq
    refine lv_iload_n hx hb dX5_waiting_0 rfl (lv_at hl 1 rfl) ?_
    refine lv_iconst (v := nI 0) hx hb dX5_waiting_1 (by decide +kernel) ?_
    refine lv_iconst (v := nI 1) hx hb dX5_waiting_2 (by decide +kernel) ?_
    refine pcall (st1 := [.int (b2 ((nI 0) ≤ (nI 1) ∧ (nI 1) ≤ (nI 1)))]) (va_runS (As := [.int (nI 1), .int (nI 0), .int (nI 1)]) (rest := []) ⟨hx, hb, hml, hown, hts⟩ (c_X5_isWithin l G (nI 1) (nI 0) (nI 1)) (va_cwS 3 hts gX5_waiting_X5_isWithin rfl rfl rfl (by decide +kernel) ⟨Nat.le_of_ble_eq_true rfl, Nat.le_of_ble_eq_true rfl⟩) (PC.preS hE P_nil) rfl rfl hl.1 rfl (lv_room (Nat.le_of_ble_eq_true rfl)) dX5_waiting_3 ⟨Nat.zero_le _, Nat.zero_le _⟩) rfl ?_
    refine tI (y := nI 1) (b2_t (inN (by omega) (by omega) (by decide))) ?_
    refine lv_if_ne (tgt := 19) hx hb dX5_waiting_6 (by decide) (fun c6 => ?_) (fun c6 => ?_)
    · skip
      refine lv_iload_n hx hb dX5_waiting_19 rfl (lv_at hl 2 rfl) ?_
      refine lv_if_ge (tgt := 33) hx hb dX5_waiting_20 (by decide) (fun c20 => ?_) (fun c20 => ?_)
      · skip
        refine lv_aload_n hx hb dX5_waiting_33 rfl (lv_at hl 0 rfl) ?_
        refine va_get (D := G.1) (ci := 5) (v := .ref (an 0)) (C := RX5) (T := TX5) (N := 6) hx hb hts w_0 hown hE.1 hP 0 rfl rfl 0 (by decide) w_1 (fun _ h9 => h9) rfl dX5_waiting_34 ?_
        refine lv_iload_n hx hb dX5_waiting_37 rfl (lv_at hl 1 rfl) ?_
        replace hP : va_P G.1 vwCl (cST G an f v0 v1 w ++ ([(fe, .inr (5, [.ref (an 0), .ref ta, .ref sa, .ref ha, .ref oa, .int hsn]))] ++ ([]))) s.heap := P_perm br1 hP
        refine pcall (st1 := [.ref (an 6)]) (va_runV (As := [.int (nI 1)]) (rest := []) ⟨hx, hb, hml, hown, hts⟩ (c_X3_lineAtBank_1 l G (an 0) (an 1) (an 2) (an 3) (an 6) (an 9) (an 12) (an 15) (f 50) (f 51) (f 52) (f 53) (f 54) (f 55) (f 56)) (cwV 1 hts gX5_waiting_X3_lineAtBank rfl rfl rfl (by decide +kernel) ⟨Nat.le_of_ble_eq_true rfl, Nat.le_of_ble_eq_true rfl⟩) (PC.preV hE (va_recv hE.1 hP (ci := 3) (q0 := 0) rfl rfl) (hP.sub [0] rfl)) rfl rfl hl.1 rfl (lv_room (Nat.le_of_ble_eq_true rfl)) dX5_waiting_38 ⟨Nat.zero_le _, Nat.zero_le _⟩) rfl ?_
        refine lv_iload_n hx hb dX5_waiting_41 rfl (lv_at hl 2 rfl) ?_
        refine pcall (st1 := [.int ((w 2) j)]) (va_runV (As := [.int (nI j)]) (rest := []) ⟨hx, hb, hml, hown, hts⟩ (c_X1_weightOf l G (an 6) (an 7) (an 8) 10 (nn f 68) v1 (w 2) (w 3) (by omega) (by omega) j hjq9) (cwV 1 hts gX5_waiting_X1_weightOf rfl rfl rfl (by decide +kernel) ⟨Nat.le_of_ble_eq_true rfl, Nat.le_of_ble_eq_true rfl⟩) (PC.preV hE (va_recv hE.1 hP (ci := 1) (q0 := 6) rfl rfl) (hP.sub [6, 7, 8] rfl)) rfl rfl hl.1 rfl (lv_room (Nat.le_of_ble_eq_true rfl)) dX5_waiting_42 ⟨Nat.zero_le _, Nat.zero_le _⟩) rfl ?_
        refine tS (st' := [.int (f (((57 + (11 * 1)) + 1) + j))]) (congrArg (fun z => [Value.int z]) ((hcp.2.1 j hjq9).trans (congrArg f (by omega)))) ?_
        exact W.iret hx hb hr (fun t ht hW => ⟨rfl, ht⟩) (fun _ h => nomatch h) dX5_waiting_45
      · skip
        exact absurd (nI_pos' hj) c20
    · skip
      exact absurd c6 (by decide)
set_option maxHeartbeats 4000000 in
set_option maxRecDepth 100000 in
theorem c_X5_waiting_out (l : Launch) (G : eG) (fe ta sa ha oa : Nat) (hsn : Int32) (an : Nat → Nat) (f : Nat → Int32) (v0 v1 : Int32) (w : Nat → Nat → Int32) (hs : Shp f) (hcp : CplW f w) (b j : Nat) (hb2 : b < 2) (hj : j < 2147483648) (hjq : nn f (57 + 11 * b) ≤ j) : Met l yX5_waiting wsX5_waiting ({ frames := 1, cells := 0, slots := 0, locals := 22 }) (PC [.ref fe, .int (nI b), .int (nI j)] G (fun H => va_P G.1 vwCl ([(fe, .inr (5, [.ref (an 0), .ref ta, .ref sa, .ref ha, .ref oa, .int hsn]))] ++ (cST G an f v0 v1 w ++ ([]))) H)) (PQ (some (.int ((-1))))) 0 0 noA := by
  refine ofB (cc := cX5_waiting) (maxL := 3) (ret := (some .int)) (by decide) rfl (Nat.le_of_ble_eq_true rfl) ?_
  intro p e s m below meth c hx hb hr hlocks hml hown hin hts hE hI ls hl
  replace hown : s.vm.findClass RX5 = some m.cls := hown
  have hl : lv_has ls 3 [(0, .ref fe), (1, .int (nI b)), (2, .int (nI j))] := hl
  have hP : va_P G.1 vwCl ([(fe, .inr (5, [.ref (an 0), .ref ta, .ref sa, .ref ha, .ref oa, .int hsn]))] ++ (cST G an f v0 v1 w ++ ([]))) s.heap := hI
  have w_0 : ∀ w ∈ u_ws RX5 TX5 6, w ∈ wsX5_waiting := by decide +kernel
  have w_1 := hts (.fieldLink RX5 10 "CableFerry" "now" "LCableFerry$State;") (by decide +kernel)
  have q0 : nn f 57 ≤ 10 := (hs.2.1 0 (by omega)).2
  have q1 : nn f 68 ≤ 10 := (hs.2.1 1 (by omega)).2
  have n0 : nn f 79 ≤ 4 := (hs.1 0 (by omega)).2
  have n1 : nn f 88 ≤ 4 := (hs.1 1 (by omega)).2
  obtain ⟨h51, h51b⟩ := hs.2.2.1
  rcases (show b = 0 ∨ b = 1 by omega) with rfl | rfl
  · skip
    have hl : lv_has ls 3 [(0, .ref fe), (1, .int (nI 0)), (2, .int (nI j))] := hl
    have hjq9 : nn f 57 ≤ j := hjq
    refine lv_iload_n hx hb dX5_waiting_0 rfl (lv_at hl 1 rfl) ?_
    refine lv_iconst (v := nI 0) hx hb dX5_waiting_1 (by decide +kernel) ?_
    refine lv_iconst (v := nI 1) hx hb dX5_waiting_2 (by decide +kernel) ?_
    refine pcall (st1 := [.int (b2 ((nI 0) ≤ (nI 0) ∧ (nI 0) ≤ (nI 1)))]) (va_runS (As := [.int (nI 0), .int (nI 0), .int (nI 1)]) (rest := []) ⟨hx, hb, hml, hown, hts⟩ (c_X5_isWithin l G (nI 0) (nI 0) (nI 1)) (va_cwS 3 hts gX5_waiting_X5_isWithin rfl rfl rfl (by decide +kernel) ⟨Nat.le_of_ble_eq_true rfl, Nat.le_of_ble_eq_true rfl⟩) (PC.preS hE P_nil) rfl rfl hl.1 rfl (lv_room (Nat.le_of_ble_eq_true rfl)) dX5_waiting_3 ⟨Nat.zero_le _, Nat.zero_le _⟩) rfl ?_
    refine tI (y := nI 1) (b2_t (inN (by omega) (by omega) (by decide))) ?_
    refine lv_if_ne (tgt := 19) hx hb dX5_waiting_6 (by decide) (fun c6 => ?_) (fun c6 => ?_)
    · skip
      refine lv_iload_n hx hb dX5_waiting_19 rfl (lv_at hl 2 rfl) ?_
      refine lv_if_ge (tgt := 33) hx hb dX5_waiting_20 (by decide) (fun c20 => ?_) (fun c20 => ?_)
      · skip
        refine lv_aload_n hx hb dX5_waiting_33 rfl (lv_at hl 0 rfl) ?_
        refine va_get (D := G.1) (ci := 5) (v := .ref (an 0)) (C := RX5) (T := TX5) (N := 6) hx hb hts w_0 hown hE.1 hP 0 rfl rfl 0 (by decide) w_1 (fun _ h9 => h9) rfl dX5_waiting_34 ?_
        refine lv_iload_n hx hb dX5_waiting_37 rfl (lv_at hl 1 rfl) ?_
        replace hP : va_P G.1 vwCl (cST G an f v0 v1 w ++ ([(fe, .inr (5, [.ref (an 0), .ref ta, .ref sa, .ref ha, .ref oa, .int hsn]))] ++ ([]))) s.heap := P_perm br1 hP
        refine pcall (st1 := [.ref (an 3)]) (va_runV (As := [.int (nI 0)]) (rest := []) ⟨hx, hb, hml, hown, hts⟩ (c_X3_lineAtBank_0 l G (an 0) (an 1) (an 2) (an 3) (an 6) (an 9) (an 12) (an 15) (f 50) (f 51) (f 52) (f 53) (f 54) (f 55) (f 56)) (cwV 1 hts gX5_waiting_X3_lineAtBank rfl rfl rfl (by decide +kernel) ⟨Nat.le_of_ble_eq_true rfl, Nat.le_of_ble_eq_true rfl⟩) (PC.preV hE (va_recv hE.1 hP (ci := 3) (q0 := 0) rfl rfl) (hP.sub [0] rfl)) rfl rfl hl.1 rfl (lv_room (Nat.le_of_ble_eq_true rfl)) dX5_waiting_38 ⟨Nat.zero_le _, Nat.zero_le _⟩) rfl ?_
        refine lv_iload_n hx hb dX5_waiting_41 rfl (lv_at hl 2 rfl) ?_
        refine pcall (st1 := [.int (-1)]) (va_runV (As := [.int (nI j)]) (rest := []) ⟨hx, hb, hml, hown, hts⟩ (c_X1_weightOf_out l G (an 3) (an 4) (an 5) 10 (nn f 57) v0 (w 0) (w 1) (by omega) (by omega) j (by omega) (by omega)) (cwV 1 hts gX5_waiting_X1_weightOf rfl rfl rfl (by decide +kernel) ⟨Nat.le_of_ble_eq_true rfl, Nat.le_of_ble_eq_true rfl⟩) (PC.preV hE (va_recv hE.1 hP (ci := 1) (q0 := 3) rfl rfl) (hP.sub [3, 4, 5] rfl)) rfl rfl hl.1 rfl (lv_room (Nat.le_of_ble_eq_true rfl)) dX5_waiting_42 ⟨Nat.zero_le _, Nat.zero_le _⟩) rfl ?_
        exact W.iret hx hb hr (fun t ht hW => ⟨rfl, ht⟩) (fun _ h => nomatch h) dX5_waiting_45
      · skip
        exact absurd (nI_pos' hj) c20
    · skip
      exact absurd c6 (by decide)
  · skip
    have hl : lv_has ls 3 [(0, .ref fe), (1, .int (nI 1)), (2, .int (nI j))] := hl
    have hjq9 : nn f 68 ≤ j := hjq
    refine lv_iload_n hx hb dX5_waiting_0 rfl (lv_at hl 1 rfl) ?_
    refine lv_iconst (v := nI 0) hx hb dX5_waiting_1 (by decide +kernel) ?_
    refine lv_iconst (v := nI 1) hx hb dX5_waiting_2 (by decide +kernel) ?_
    refine pcall (st1 := [.int (b2 ((nI 0) ≤ (nI 1) ∧ (nI 1) ≤ (nI 1)))]) (va_runS (As := [.int (nI 1), .int (nI 0), .int (nI 1)]) (rest := []) ⟨hx, hb, hml, hown, hts⟩ (c_X5_isWithin l G (nI 1) (nI 0) (nI 1)) (va_cwS 3 hts gX5_waiting_X5_isWithin rfl rfl rfl (by decide +kernel) ⟨Nat.le_of_ble_eq_true rfl, Nat.le_of_ble_eq_true rfl⟩) (PC.preS hE P_nil) rfl rfl hl.1 rfl (lv_room (Nat.le_of_ble_eq_true rfl)) dX5_waiting_3 ⟨Nat.zero_le _, Nat.zero_le _⟩) rfl ?_
    refine tI (y := nI 1) (b2_t (inN (by omega) (by omega) (by decide))) ?_
    refine lv_if_ne (tgt := 19) hx hb dX5_waiting_6 (by decide) (fun c6 => ?_) (fun c6 => ?_)
    · skip
      refine lv_iload_n hx hb dX5_waiting_19 rfl (lv_at hl 2 rfl) ?_
      refine lv_if_ge (tgt := 33) hx hb dX5_waiting_20 (by decide) (fun c20 => ?_) (fun c20 => ?_)
      · skip
        refine lv_aload_n hx hb dX5_waiting_33 rfl (lv_at hl 0 rfl) ?_
        refine va_get (D := G.1) (ci := 5) (v := .ref (an 0)) (C := RX5) (T := TX5) (N := 6) hx hb hts w_0 hown hE.1 hP 0 rfl rfl 0 (by decide) w_1 (fun _ h9 => h9) rfl dX5_waiting_34 ?_
        refine lv_iload_n hx hb dX5_waiting_37 rfl (lv_at hl 1 rfl) ?_
        replace hP : va_P G.1 vwCl (cST G an f v0 v1 w ++ ([(fe, .inr (5, [.ref (an 0), .ref ta, .ref sa, .ref ha, .ref oa, .int hsn]))] ++ ([]))) s.heap := P_perm br1 hP
        refine pcall (st1 := [.ref (an 6)]) (va_runV (As := [.int (nI 1)]) (rest := []) ⟨hx, hb, hml, hown, hts⟩ (c_X3_lineAtBank_1 l G (an 0) (an 1) (an 2) (an 3) (an 6) (an 9) (an 12) (an 15) (f 50) (f 51) (f 52) (f 53) (f 54) (f 55) (f 56)) (cwV 1 hts gX5_waiting_X3_lineAtBank rfl rfl rfl (by decide +kernel) ⟨Nat.le_of_ble_eq_true rfl, Nat.le_of_ble_eq_true rfl⟩) (PC.preV hE (va_recv hE.1 hP (ci := 3) (q0 := 0) rfl rfl) (hP.sub [0] rfl)) rfl rfl hl.1 rfl (lv_room (Nat.le_of_ble_eq_true rfl)) dX5_waiting_38 ⟨Nat.zero_le _, Nat.zero_le _⟩) rfl ?_
        refine lv_iload_n hx hb dX5_waiting_41 rfl (lv_at hl 2 rfl) ?_
        refine pcall (st1 := [.int (-1)]) (va_runV (As := [.int (nI j)]) (rest := []) ⟨hx, hb, hml, hown, hts⟩ (c_X1_weightOf_out l G (an 6) (an 7) (an 8) 10 (nn f 68) v1 (w 2) (w 3) (by omega) (by omega) j (by omega) (by omega)) (cwV 1 hts gX5_waiting_X1_weightOf rfl rfl rfl (by decide +kernel) ⟨Nat.le_of_ble_eq_true rfl, Nat.le_of_ble_eq_true rfl⟩) (PC.preV hE (va_recv hE.1 hP (ci := 1) (q0 := 6) rfl rfl) (hP.sub [6, 7, 8] rfl)) rfl rfl hl.1 rfl (lv_room (Nat.le_of_ble_eq_true rfl)) dX5_waiting_42 ⟨Nat.zero_le _, Nat.zero_le _⟩) rfl ?_
        exact W.iret hx hb hr (fun t ht hW => ⟨rfl, ht⟩) (fun _ h => nomatch h) dX5_waiting_45
      · skip
        exact absurd (nI_pos' hj) c20
    · skip
      exact absurd c6 (by decide)
set_option maxHeartbeats 4000000 in
set_option maxRecDepth 100000 in
theorem c_X5_waiting_e1 (l : Launch) (hlt : l.stackTraces = false) (G : eG) (fe : Nat) (p0 p1 : Int32) (hNo : ¬ (nI 0 ≤ p0 ∧ p0 ≤ nI 1)) : vx_Met l yX5_waiting wsX5_waiting ({ frames := 6, cells := 1, slots := 6, locals := 82 }) (PJ [.ref fe, .int p0, .int p1] G (fun H => va_P G.1 vwCl [] H)) QF (XE "java/lang/IndexOutOfBoundsException") 1 6 noA := by
  refine ofBX (cc := cX5_waiting) (maxL := 3) (ret := (some .int)) (by decide) rfl (Nat.le_of_ble_eq_true rfl) ?_
  intro p e s m below meth c hx hb hr hlocks hml hown hin hts hE hJ hI ht ls hl
  replace hown : s.vm.findClass RX5 = some m.cls := hown
  have hl : lv_has ls 3 [(0, .ref fe), (1, .int p0), (2, .int p1)] := hl
  have hP : va_P G.1 vwCl [] s.heap := hI
  skip
  refine lv_iload_n hx hb dX5_waiting_0 rfl (lv_at hl 1 rfl) ?_
  refine lv_iconst (v := nI 0) hx hb dX5_waiting_1 (by decide +kernel) ?_
  refine lv_iconst (v := nI 1) hx hb dX5_waiting_2 (by decide +kernel) ?_
  refine pcall (st1 := [.int (b2 ((nI 0) ≤ p0 ∧ p0 ≤ (nI 1)))]) (va_runS (As := [.int p0, .int (nI 0), .int (nI 1)]) (rest := []) ⟨hx, hb, hml, hown, hts⟩ (c_X5_isWithin l G p0 (nI 0) (nI 1)) (va_cwS 3 hts gX5_waiting_X5_isWithin rfl rfl rfl (by decide +kernel) ⟨Nat.le_of_ble_eq_true rfl, Nat.le_of_ble_eq_true rfl⟩) (PC.preS hE P_nil) rfl rfl hl.1 rfl (lv_room (Nat.le_of_ble_eq_true rfl)) dX5_waiting_3 ⟨Nat.zero_le _, Nat.zero_le _⟩) rfl ?_
  refine tI (y := nI 0) (b2_f hNo) ?_
  refine lv_if_ne (tgt := 19) hx hb dX5_waiting_6 (by decide) (fun c6 => ?_) (fun c6 => ?_)
  · skip
    exact absurd c6 (by decide)
  · skip
    exact xthrow (text := "no such bank") hx hb hlt hown rfl (by decide +kernel) (by decide +kernel) hts (by decide +kernel) (by decide +kernel) (fun _ h => List.mem_cons_of_mem _ (List.mem_append_left _ (List.mem_append_right _ h))) (by decide +kernel) xg_IOB.1 xg_IOB.2 hJ (hl.1.trans hml.symm) dX5_waiting_9 dX5_waiting_12 dX5_waiting_13 dX5_waiting_15 dX5_waiting_18 ht (Nat.le_of_ble_eq_true rfl) (Nat.le_of_ble_eq_true rfl) (Nat.le_of_ble_eq_true rfl) (Nat.le_of_ble_eq_true rfl) hlocks
set_option maxHeartbeats 4000000 in
set_option maxRecDepth 100000 in
theorem c_X5_waiting_e2 (l : Launch) (hlt : l.stackTraces = false) (G : eG) (fe : Nat) (p0 p1 : Int32) (h1 : nI 0 ≤ p0 ∧ p0 ≤ nI 1) (hNo : ¬ 0 ≤ p1) : vx_Met l yX5_waiting wsX5_waiting ({ frames := 6, cells := 1, slots := 6, locals := 82 }) (PJ [.ref fe, .int p0, .int p1] G (fun H => va_P G.1 vwCl [] H)) QF (XE "java/lang/IllegalArgumentException") 1 6 noA := by
  refine ofBX (cc := cX5_waiting) (maxL := 3) (ret := (some .int)) (by decide) rfl (Nat.le_of_ble_eq_true rfl) ?_
  intro p e s m below meth c hx hb hr hlocks hml hown hin hts hE hJ hI ht ls hl
  replace hown : s.vm.findClass RX5 = some m.cls := hown
  have hl : lv_has ls 3 [(0, .ref fe), (1, .int p0), (2, .int p1)] := hl
  have hP : va_P G.1 vwCl [] s.heap := hI
  skip
  refine lv_iload_n hx hb dX5_waiting_0 rfl (lv_at hl 1 rfl) ?_
  refine lv_iconst (v := nI 0) hx hb dX5_waiting_1 (by decide +kernel) ?_
  refine lv_iconst (v := nI 1) hx hb dX5_waiting_2 (by decide +kernel) ?_
  refine pcall (st1 := [.int (b2 ((nI 0) ≤ p0 ∧ p0 ≤ (nI 1)))]) (va_runS (As := [.int p0, .int (nI 0), .int (nI 1)]) (rest := []) ⟨hx, hb, hml, hown, hts⟩ (c_X5_isWithin l G p0 (nI 0) (nI 1)) (va_cwS 3 hts gX5_waiting_X5_isWithin rfl rfl rfl (by decide +kernel) ⟨Nat.le_of_ble_eq_true rfl, Nat.le_of_ble_eq_true rfl⟩) (PC.preS hE P_nil) rfl rfl hl.1 rfl (lv_room (Nat.le_of_ble_eq_true rfl)) dX5_waiting_3 ⟨Nat.zero_le _, Nat.zero_le _⟩) rfl ?_
  refine tI (y := nI 1) (b2_t h1) ?_
  refine lv_if_ne (tgt := 19) hx hb dX5_waiting_6 (by decide) (fun c6 => ?_) (fun c6 => ?_)
  · skip
    refine lv_iload_n hx hb dX5_waiting_19 rfl (lv_at hl 2 rfl) ?_
    refine lv_if_ge (tgt := 33) hx hb dX5_waiting_20 (by decide) (fun c20 => ?_) (fun c20 => ?_)
    · skip
      exact absurd c20 hNo
    · skip
      exact xthrow (text := "place is below 0") hx hb hlt hown rfl (by decide +kernel) (by decide +kernel) hts (by decide +kernel) (by decide +kernel) (fun _ h => List.mem_cons_of_mem _ (List.mem_append_right _ h)) (by decide +kernel) xg_IAE.1 xg_IAE.2 hJ (hl.1.trans hml.symm) dX5_waiting_23 dX5_waiting_26 dX5_waiting_27 dX5_waiting_29 dX5_waiting_32 ht (Nat.le_of_ble_eq_true rfl) (Nat.le_of_ble_eq_true rfl) (Nat.le_of_ble_eq_true rfl) (Nat.le_of_ble_eq_true rfl) hlocks
  · skip
    exact absurd c6 (by decide)
set_option maxHeartbeats 4000000 in
set_option maxRecDepth 100000 in
theorem c_X5_deck_in (l : Launch) (G : eG) (fe ta sa ha oa : Nat) (hsn : Int32) (an : Nat → Nat) (f : Nat → Int32) (v0 v1 : Int32) (w : Nat → Nat → Int32) (hs : Shp f) (hcp : CplW f w) (b j : Nat) (hb2 : b < 2) (hj : j < 2147483648) (x : Nat) (hw2 : x < 2) (hjq : j < nn f (79 + 9 * b)) : Met l yX5_deck wsX5_deck ({ frames := 2, cells := 0, slots := 0, locals := 42 }) (PC [.ref fe, .int (nI b), .int (nI j), .int (nI x)] G (fun H => va_P G.1 vwCl ([(fe, .inr (5, [.ref (an 0), .ref ta, .ref sa, .ref ha, .ref oa, .int hsn]))] ++ (cST G an f v0 v1 w ++ ([]))) H)) (PQ (some (.int (f ((((79 + (9 * b)) + 1) + (2 * j)) + x))))) 0 0 noA := by
  refine ofB (cc := cX5_deck) (maxL := 5) (ret := (some .int)) (by decide) rfl (Nat.le_of_ble_eq_true rfl) ?_
  intro p e s m below meth c hx hb hr hlocks hml hown hin hts hE hI ls hl
  replace hown : s.vm.findClass RX5 = some m.cls := hown
  have hl : lv_has ls 5 [(0, .ref fe), (1, .int (nI b)), (2, .int (nI j)), (3, .int (nI x))] := hl
  have hP : va_P G.1 vwCl ([(fe, .inr (5, [.ref (an 0), .ref ta, .ref sa, .ref ha, .ref oa, .int hsn]))] ++ (cST G an f v0 v1 w ++ ([]))) s.heap := hI
  have w_0 : ∀ w ∈ u_ws RX5 TX5 6, w ∈ wsX5_deck := by decide +kernel
  have w_1 := hts (.fieldLink RX5 10 "CableFerry" "now" "LCableFerry$State;") (by decide +kernel)
  have q0 : nn f 57 ≤ 10 := (hs.2.1 0 (by omega)).2
  have q1 : nn f 68 ≤ 10 := (hs.2.1 1 (by omega)).2
  have n0 : nn f 79 ≤ 4 := (hs.1 0 (by omega)).2
  have n1 : nn f 88 ≤ 4 := (hs.1 1 (by omega)).2
  obtain ⟨h51, h51b⟩ := hs.2.2.1
  rcases (show b = 0 ∨ b = 1 by omega) with rfl | rfl
  · skip
    have hl : lv_has ls 5 [(0, .ref fe), (1, .int (nI 0)), (2, .int (nI j)), (3, .int (nI x))] := hl
    have hjq9 : j < nn f 79 := hjq
    rcases (show x = 0 ∨ x = 1 by omega) with rfl | rfl
    · skip
      have hl : lv_has ls 5 [(0, .ref fe), (1, .int (nI 0)), (2, .int (nI j)), (3, .int (nI 0))] := hl
      refine lv_iload_n hx hb dX5_deck_0 rfl (lv_at hl 1 rfl) ?_
      refine lv_iconst (v := nI 0) hx hb dX5_deck_1 (by decide +kernel) ?_
      refine lv_iconst (v := nI 1) hx hb dX5_deck_2 (by decide +kernel) ?_
      refine pcall (st1 := [.int (b2 ((nI 0) ≤ (nI 0) ∧ (nI 0) ≤ (nI 1)))]) (va_runS (As := [.int (nI 0), .int (nI 0), .int (nI 1)]) (rest := []) ⟨hx, hb, hml, hown, hts⟩ (c_X5_isWithin l G (nI 0) (nI 0) (nI 1)) (va_cwS 3 hts gX5_deck_X5_isWithin rfl rfl rfl (by decide +kernel) ⟨Nat.le_of_ble_eq_true rfl, Nat.le_of_ble_eq_true rfl⟩) (PC.preS hE P_nil) rfl rfl hl.1 rfl (lv_room (Nat.le_of_ble_eq_true rfl)) dX5_deck_3 ⟨Nat.zero_le _, Nat.zero_le _⟩) rfl ?_
      refine tI (y := nI 1) (b2_t (inN (by omega) (by omega) (by decide))) ?_
      refine lv_if_ne (tgt := 19) hx hb dX5_deck_6 (by decide) (fun c6 => ?_) (fun c6 => ?_)
      · skip
        refine lv_iload_n hx hb dX5_deck_19 rfl (lv_at hl 2 rfl) ?_
        refine lv_if_lt (tgt := 32) hx hb dX5_deck_20 (by decide) (fun c20 => ?_) (fun c20 => ?_)
        · skip
          exact absurd c20 (nI_pos hj)
        · skip
          refine lv_iload_n hx hb dX5_deck_23 rfl (lv_at hl 3 rfl) ?_
          refine lv_iconst (v := nI 0) hx hb dX5_deck_24 (by decide +kernel) ?_
          refine lv_iconst (v := nI 1) hx hb dX5_deck_25 (by decide +kernel) ?_
          refine pcall (st1 := [.int (b2 ((nI 0) ≤ (nI 0) ∧ (nI 0) ≤ (nI 1)))]) (va_runS (As := [.int (nI 0), .int (nI 0), .int (nI 1)]) (rest := []) ⟨hx, hb, hml, hown, hts⟩ (c_X5_isWithin l G (nI 0) (nI 0) (nI 1)) (va_cwS 3 hts gX5_deck_X5_isWithin rfl rfl rfl (by decide +kernel) ⟨Nat.le_of_ble_eq_true rfl, Nat.le_of_ble_eq_true rfl⟩) (PC.preS hE P_nil) rfl rfl hl.1 rfl (lv_room (Nat.le_of_ble_eq_true rfl)) dX5_deck_26 ⟨Nat.zero_le _, Nat.zero_le _⟩) rfl ?_
          refine tI (y := nI 1) (b2_t (inN (by omega) (by omega) (by decide))) ?_
          refine lv_if_ne (tgt := 42) hx hb dX5_deck_29 (by decide) (fun c29 => ?_) (fun c29 => ?_)
          · skip
            refine lv_aload_n hx hb dX5_deck_42 rfl (lv_at hl 0 rfl) ?_
            refine va_get (D := G.1) (ci := 5) (v := .ref (an 0)) (C := RX5) (T := TX5) (N := 6) hx hb hts w_0 hown hE.1 hP 0 rfl rfl 0 (by decide) w_1 (fun _ h9 => h9) rfl dX5_deck_43 ?_
            refine lv_iload_n hx hb dX5_deck_46 rfl (lv_at hl 1 rfl) ?_
            replace hP : va_P G.1 vwCl (cST G an f v0 v1 w ++ ([(fe, .inr (5, [.ref (an 0), .ref ta, .ref sa, .ref ha, .ref oa, .int hsn]))] ++ ([]))) s.heap := P_perm br1 hP
            refine pcall (st1 := [.ref (an 9)]) (va_runV (As := [.int (nI 0)]) (rest := []) ⟨hx, hb, hml, hown, hts⟩ (c_X3_lineOnLane_0 l G (an 0) (an 1) (an 2) (an 3) (an 6) (an 9) (an 12) (an 15) (f 50) (f 51) (f 52) (f 53) (f 54) (f 55) (f 56)) (cwV 1 hts gX5_deck_X3_lineOnLane rfl rfl rfl (by decide +kernel) ⟨Nat.le_of_ble_eq_true rfl, Nat.le_of_ble_eq_true rfl⟩) (PC.preV hE (va_recv hE.1 hP (ci := 3) (q0 := 0) rfl rfl) (hP.sub [0] rfl)) rfl rfl hl.1 rfl (lv_room (Nat.le_of_ble_eq_true rfl)) dX5_deck_47 ⟨Nat.zero_le _, Nat.zero_le _⟩) rfl ?_
            refine lv_astore (lv' := [(4, .ref (an 9)), (0, .ref fe), (1, .int (nI 0)), (2, .int (nI j)), (3, .int (nI 0))]) hx hb dX5_deck_50 hl (by decide) rfl (fun ls hl => ?_)
            refine lv_iload_n hx hb dX5_deck_52 rfl (lv_at hl 4 rfl) ?_
            refine lv_if_ne (tgt := 65) hx hb dX5_deck_53 (by decide) (fun c53 => ?_) (fun c53 => ?_)
            · skip
              exact absurd c53 (by decide)
            · skip
              refine lv_aload hx hb dX5_deck_56 (lv_at hl 0 rfl) ?_
              refine lv_iload_n hx hb dX5_deck_58 rfl (lv_at hl 3 rfl) ?_
              refine pcall (st1 := [.int ((w 4) j)]) (va_runV (As := [.int (nI j)]) (rest := []) ⟨hx, hb, hml, hown, hts⟩ (c_X1_weightOf l G (an 9) (an 10) (an 11) 4 (nn f 79) (fLw f 0) (w 4) (w 5) (by omega) (by omega) j hjq9) (cwV 1 hts gX5_deck_X1_weightOf rfl rfl rfl (by decide +kernel) ⟨Nat.le_of_ble_eq_true rfl, Nat.le_of_ble_eq_true rfl⟩) (PC.preV hE (va_recv hE.1 hP (ci := 1) (q0 := 9) rfl rfl) (hP.sub [9, 10, 11] rfl)) rfl rfl hl.1 rfl (lv_room (Nat.le_of_ble_eq_true rfl)) dX5_deck_59 ⟨Nat.zero_le _, Nat.zero_le _⟩) rfl ?_
              refine lv_goto (tgt := 71) hx hb dX5_deck_62 (by decide) ?_
              refine tS (st' := [.int (f ((((79 + (9 * 0)) + 1) + (2 * j)) + 0))]) (congrArg (fun z => [Value.int z]) ((hcp.2.2.1 j hjq9).1.trans (congrArg f (by omega)))) ?_
              exact W.iret hx hb hr (fun t ht hW => ⟨rfl, ht⟩) (fun _ h => nomatch h) dX5_deck_71
          · skip
            exact absurd c29 (by decide)
      · skip
        exact absurd c6 (by decide)
    · skip
      have hl : lv_has ls 5 [(0, .ref fe), (1, .int (nI 0)), (2, .int (nI j)), (3, .int (nI 1))] := hl
      refine lv_iload_n hx hb dX5_deck_0 rfl (lv_at hl 1 rfl) ?_
      refine lv_iconst (v := nI 0) hx hb dX5_deck_1 (by decide +kernel) ?_
      refine lv_iconst (v := nI 1) hx hb dX5_deck_2 (by decide +kernel) ?_
      refine pcall (st1 := [.int (b2 ((nI 0) ≤ (nI 0) ∧ (nI 0) ≤ (nI 1)))]) (va_runS (As := [.int (nI 0), .int (nI 0), .int (nI 1)]) (rest := []) ⟨hx, hb, hml, hown, hts⟩ (c_X5_isWithin l G (nI 0) (nI 0) (nI 1)) (va_cwS 3 hts gX5_deck_X5_isWithin rfl rfl rfl (by decide +kernel) ⟨Nat.le_of_ble_eq_true rfl, Nat.le_of_ble_eq_true rfl⟩) (PC.preS hE P_nil) rfl rfl hl.1 rfl (lv_room (Nat.le_of_ble_eq_true rfl)) dX5_deck_3 ⟨Nat.zero_le _, Nat.zero_le _⟩) rfl ?_
      refine tI (y := nI 1) (b2_t (inN (by omega) (by omega) (by decide))) ?_
      refine lv_if_ne (tgt := 19) hx hb dX5_deck_6 (by decide) (fun c6 => ?_) (fun c6 => ?_)
      · skip
        refine lv_iload_n hx hb dX5_deck_19 rfl (lv_at hl 2 rfl) ?_
        refine lv_if_lt (tgt := 32) hx hb dX5_deck_20 (by decide) (fun c20 => ?_) (fun c20 => ?_)
        · skip
          exact absurd c20 (nI_pos hj)
        · skip
          refine lv_iload_n hx hb dX5_deck_23 rfl (lv_at hl 3 rfl) ?_
          refine lv_iconst (v := nI 0) hx hb dX5_deck_24 (by decide +kernel) ?_
          refine lv_iconst (v := nI 1) hx hb dX5_deck_25 (by decide +kernel) ?_
          refine pcall (st1 := [.int (b2 ((nI 0) ≤ (nI 1) ∧ (nI 1) ≤ (nI 1)))]) (va_runS (As := [.int (nI 1), .int (nI 0), .int (nI 1)]) (rest := []) ⟨hx, hb, hml, hown, hts⟩ (c_X5_isWithin l G (nI 1) (nI 0) (nI 1)) (va_cwS 3 hts gX5_deck_X5_isWithin rfl rfl rfl (by decide +kernel) ⟨Nat.le_of_ble_eq_true rfl, Nat.le_of_ble_eq_true rfl⟩) (PC.preS hE P_nil) rfl rfl hl.1 rfl (lv_room (Nat.le_of_ble_eq_true rfl)) dX5_deck_26 ⟨Nat.zero_le _, Nat.zero_le _⟩) rfl ?_
          refine tI (y := nI 1) (b2_t (inN (by omega) (by omega) (by decide))) ?_
          refine lv_if_ne (tgt := 42) hx hb dX5_deck_29 (by decide) (fun c29 => ?_) (fun c29 => ?_)
          · skip
            refine lv_aload_n hx hb dX5_deck_42 rfl (lv_at hl 0 rfl) ?_
            refine va_get (D := G.1) (ci := 5) (v := .ref (an 0)) (C := RX5) (T := TX5) (N := 6) hx hb hts w_0 hown hE.1 hP 0 rfl rfl 0 (by decide) w_1 (fun _ h9 => h9) rfl dX5_deck_43 ?_
            refine lv_iload_n hx hb dX5_deck_46 rfl (lv_at hl 1 rfl) ?_
            replace hP : va_P G.1 vwCl (cST G an f v0 v1 w ++ ([(fe, .inr (5, [.ref (an 0), .ref ta, .ref sa, .ref ha, .ref oa, .int hsn]))] ++ ([]))) s.heap := P_perm br1 hP
            refine pcall (st1 := [.ref (an 9)]) (va_runV (As := [.int (nI 0)]) (rest := []) ⟨hx, hb, hml, hown, hts⟩ (c_X3_lineOnLane_0 l G (an 0) (an 1) (an 2) (an 3) (an 6) (an 9) (an 12) (an 15) (f 50) (f 51) (f 52) (f 53) (f 54) (f 55) (f 56)) (cwV 1 hts gX5_deck_X3_lineOnLane rfl rfl rfl (by decide +kernel) ⟨Nat.le_of_ble_eq_true rfl, Nat.le_of_ble_eq_true rfl⟩) (PC.preV hE (va_recv hE.1 hP (ci := 3) (q0 := 0) rfl rfl) (hP.sub [0] rfl)) rfl rfl hl.1 rfl (lv_room (Nat.le_of_ble_eq_true rfl)) dX5_deck_47 ⟨Nat.zero_le _, Nat.zero_le _⟩) rfl ?_
            refine lv_astore (lv' := [(4, .ref (an 9)), (0, .ref fe), (1, .int (nI 0)), (2, .int (nI j)), (3, .int (nI 1))]) hx hb dX5_deck_50 hl (by decide) rfl (fun ls hl => ?_)
            refine lv_iload_n hx hb dX5_deck_52 rfl (lv_at hl 4 rfl) ?_
            refine lv_if_ne (tgt := 65) hx hb dX5_deck_53 (by decide) (fun c53 => ?_) (fun c53 => ?_)
            · skip
              refine lv_aload hx hb dX5_deck_65 (lv_at hl 0 rfl) ?_
              refine lv_iload_n hx hb dX5_deck_67 rfl (lv_at hl 3 rfl) ?_
              refine pcall (st1 := [.int ((w 5) j)]) (va_runV (As := [.int (nI j)]) (rest := []) ⟨hx, hb, hml, hown, hts⟩ (c_X1_bankOf l G (an 9) (an 10) (an 11) 4 (nn f 79) (fLw f 0) (w 4) (w 5) (by omega) (by omega) j hjq9) (cwV 1 hts gX5_deck_X1_bankOf rfl rfl rfl (by decide +kernel) ⟨Nat.le_of_ble_eq_true rfl, Nat.le_of_ble_eq_true rfl⟩) (PC.preV hE (va_recv hE.1 hP (ci := 1) (q0 := 9) rfl rfl) (hP.sub [9, 10, 11] rfl)) rfl rfl hl.1 rfl (lv_room (Nat.le_of_ble_eq_true rfl)) dX5_deck_68 ⟨Nat.zero_le _, Nat.zero_le _⟩) rfl ?_
              refine tS (st' := [.int (f ((((79 + (9 * 0)) + 1) + (2 * j)) + 1))]) (congrArg (fun z => [Value.int z]) ((hcp.2.2.1 j hjq9).2.trans (congrArg f (by omega)))) ?_
              exact W.iret hx hb hr (fun t ht hW => ⟨rfl, ht⟩) (fun _ h => nomatch h) dX5_deck_71
            · skip
              exact absurd c53 (by decide)
          · skip
            exact absurd c29 (by decide)
      · skip
        exact absurd c6 (by decide)
  · skip
    have hl : lv_has ls 5 [(0, .ref fe), (1, .int (nI 1)), (2, .int (nI j)), (3, .int (nI x))] := hl
    have hjq9 : j < nn f 88 := hjq
    rcases (show x = 0 ∨ x = 1 by omega) with rfl | rfl
    · skip
      have hl : lv_has ls 5 [(0, .ref fe), (1, .int (nI 1)), (2, .int (nI j)), (3, .int (nI 0))] := hl
      refine lv_iload_n hx hb dX5_deck_0 rfl (lv_at hl 1 rfl) ?_
      refine lv_iconst (v := nI 0) hx hb dX5_deck_1 (by decide +kernel) ?_
      refine lv_iconst (v := nI 1) hx hb dX5_deck_2 (by decide +kernel) ?_
      refine pcall (st1 := [.int (b2 ((nI 0) ≤ (nI 1) ∧ (nI 1) ≤ (nI 1)))]) (va_runS (As := [.int (nI 1), .int (nI 0), .int (nI 1)]) (rest := []) ⟨hx, hb, hml, hown, hts⟩ (c_X5_isWithin l G (nI 1) (nI 0) (nI 1)) (va_cwS 3 hts gX5_deck_X5_isWithin rfl rfl rfl (by decide +kernel) ⟨Nat.le_of_ble_eq_true rfl, Nat.le_of_ble_eq_true rfl⟩) (PC.preS hE P_nil) rfl rfl hl.1 rfl (lv_room (Nat.le_of_ble_eq_true rfl)) dX5_deck_3 ⟨Nat.zero_le _, Nat.zero_le _⟩) rfl ?_
      refine tI (y := nI 1) (b2_t (inN (by omega) (by omega) (by decide))) ?_
      refine lv_if_ne (tgt := 19) hx hb dX5_deck_6 (by decide) (fun c6 => ?_) (fun c6 => ?_)
      · skip
        refine lv_iload_n hx hb dX5_deck_19 rfl (lv_at hl 2 rfl) ?_
        refine lv_if_lt (tgt := 32) hx hb dX5_deck_20 (by decide) (fun c20 => ?_) (fun c20 => ?_)
        · skip
          exact absurd c20 (nI_pos hj)
        · skip
          refine lv_iload_n hx hb dX5_deck_23 rfl (lv_at hl 3 rfl) ?_
          refine lv_iconst (v := nI 0) hx hb dX5_deck_24 (by decide +kernel) ?_
          refine lv_iconst (v := nI 1) hx hb dX5_deck_25 (by decide +kernel) ?_
          refine pcall (st1 := [.int (b2 ((nI 0) ≤ (nI 0) ∧ (nI 0) ≤ (nI 1)))]) (va_runS (As := [.int (nI 0), .int (nI 0), .int (nI 1)]) (rest := []) ⟨hx, hb, hml, hown, hts⟩ (c_X5_isWithin l G (nI 0) (nI 0) (nI 1)) (va_cwS 3 hts gX5_deck_X5_isWithin rfl rfl rfl (by decide +kernel) ⟨Nat.le_of_ble_eq_true rfl, Nat.le_of_ble_eq_true rfl⟩) (PC.preS hE P_nil) rfl rfl hl.1 rfl (lv_room (Nat.le_of_ble_eq_true rfl)) dX5_deck_26 ⟨Nat.zero_le _, Nat.zero_le _⟩) rfl ?_
          refine tI (y := nI 1) (b2_t (inN (by omega) (by omega) (by decide))) ?_
          refine lv_if_ne (tgt := 42) hx hb dX5_deck_29 (by decide) (fun c29 => ?_) (fun c29 => ?_)
          · skip
            refine lv_aload_n hx hb dX5_deck_42 rfl (lv_at hl 0 rfl) ?_
            refine va_get (D := G.1) (ci := 5) (v := .ref (an 0)) (C := RX5) (T := TX5) (N := 6) hx hb hts w_0 hown hE.1 hP 0 rfl rfl 0 (by decide) w_1 (fun _ h9 => h9) rfl dX5_deck_43 ?_
            refine lv_iload_n hx hb dX5_deck_46 rfl (lv_at hl 1 rfl) ?_
            replace hP : va_P G.1 vwCl (cST G an f v0 v1 w ++ ([(fe, .inr (5, [.ref (an 0), .ref ta, .ref sa, .ref ha, .ref oa, .int hsn]))] ++ ([]))) s.heap := P_perm br1 hP
            refine pcall (st1 := [.ref (an 12)]) (va_runV (As := [.int (nI 1)]) (rest := []) ⟨hx, hb, hml, hown, hts⟩ (c_X3_lineOnLane_1 l G (an 0) (an 1) (an 2) (an 3) (an 6) (an 9) (an 12) (an 15) (f 50) (f 51) (f 52) (f 53) (f 54) (f 55) (f 56)) (cwV 1 hts gX5_deck_X3_lineOnLane rfl rfl rfl (by decide +kernel) ⟨Nat.le_of_ble_eq_true rfl, Nat.le_of_ble_eq_true rfl⟩) (PC.preV hE (va_recv hE.1 hP (ci := 3) (q0 := 0) rfl rfl) (hP.sub [0] rfl)) rfl rfl hl.1 rfl (lv_room (Nat.le_of_ble_eq_true rfl)) dX5_deck_47 ⟨Nat.zero_le _, Nat.zero_le _⟩) rfl ?_
            refine lv_astore (lv' := [(4, .ref (an 12)), (0, .ref fe), (1, .int (nI 1)), (2, .int (nI j)), (3, .int (nI 0))]) hx hb dX5_deck_50 hl (by decide) rfl (fun ls hl => ?_)
            refine lv_iload_n hx hb dX5_deck_52 rfl (lv_at hl 4 rfl) ?_
            refine lv_if_ne (tgt := 65) hx hb dX5_deck_53 (by decide) (fun c53 => ?_) (fun c53 => ?_)
            · skip
              exact absurd c53 (by decide)
            · skip
              refine lv_aload hx hb dX5_deck_56 (lv_at hl 0 rfl) ?_
              refine lv_iload_n hx hb dX5_deck_58 rfl (lv_at hl 3 rfl) ?_
              refine pcall (st1 := [.int ((w 6) j)]) (va_runV (As := [.int (nI j)]) (rest := []) ⟨hx, hb, hml, hown, hts⟩ (c_X1_weightOf l G (an 12) (an 13) (an 14) 4 (nn f 88) (fLw f 1) (w 6) (w 7) (by omega) (by omega) j hjq9) (cwV 1 hts gX5_deck_X1_weightOf rfl rfl rfl (by decide +kernel) ⟨Nat.le_of_ble_eq_true rfl, Nat.le_of_ble_eq_true rfl⟩) (PC.preV hE (va_recv hE.1 hP (ci := 1) (q0 := 12) rfl rfl) (hP.sub [12, 13, 14] rfl)) rfl rfl hl.1 rfl (lv_room (Nat.le_of_ble_eq_true rfl)) dX5_deck_59 ⟨Nat.zero_le _, Nat.zero_le _⟩) rfl ?_
              refine lv_goto (tgt := 71) hx hb dX5_deck_62 (by decide) ?_
              refine tS (st' := [.int (f ((((79 + (9 * 1)) + 1) + (2 * j)) + 0))]) (congrArg (fun z => [Value.int z]) ((hcp.2.2.2 j hjq9).1.trans (congrArg f (by omega)))) ?_
              exact W.iret hx hb hr (fun t ht hW => ⟨rfl, ht⟩) (fun _ h => nomatch h) dX5_deck_71
          · skip
            exact absurd c29 (by decide)
      · skip
        exact absurd c6 (by decide)
    · skip
      have hl : lv_has ls 5 [(0, .ref fe), (1, .int (nI 1)), (2, .int (nI j)), (3, .int (nI 1))] := hl
      refine lv_iload_n hx hb dX5_deck_0 rfl (lv_at hl 1 rfl) ?_
      refine lv_iconst (v := nI 0) hx hb dX5_deck_1 (by decide +kernel) ?_
      refine lv_iconst (v := nI 1) hx hb dX5_deck_2 (by decide +kernel) ?_
      refine pcall (st1 := [.int (b2 ((nI 0) ≤ (nI 1) ∧ (nI 1) ≤ (nI 1)))]) (va_runS (As := [.int (nI 1), .int (nI 0), .int (nI 1)]) (rest := []) ⟨hx, hb, hml, hown, hts⟩ (c_X5_isWithin l G (nI 1) (nI 0) (nI 1)) (va_cwS 3 hts gX5_deck_X5_isWithin rfl rfl rfl (by decide +kernel) ⟨Nat.le_of_ble_eq_true rfl, Nat.le_of_ble_eq_true rfl⟩) (PC.preS hE P_nil) rfl rfl hl.1 rfl (lv_room (Nat.le_of_ble_eq_true rfl)) dX5_deck_3 ⟨Nat.zero_le _, Nat.zero_le _⟩) rfl ?_
      refine tI (y := nI 1) (b2_t (inN (by omega) (by omega) (by decide))) ?_
      refine lv_if_ne (tgt := 19) hx hb dX5_deck_6 (by decide) (fun c6 => ?_) (fun c6 => ?_)
      · skip
        refine lv_iload_n hx hb dX5_deck_19 rfl (lv_at hl 2 rfl) ?_
        refine lv_if_lt (tgt := 32) hx hb dX5_deck_20 (by decide) (fun c20 => ?_) (fun c20 => ?_)
        · skip
          exact absurd c20 (nI_pos hj)
        · skip
          refine lv_iload_n hx hb dX5_deck_23 rfl (lv_at hl 3 rfl) ?_
          refine lv_iconst (v := nI 0) hx hb dX5_deck_24 (by decide +kernel) ?_
          refine lv_iconst (v := nI 1) hx hb dX5_deck_25 (by decide +kernel) ?_
          refine pcall (st1 := [.int (b2 ((nI 0) ≤ (nI 1) ∧ (nI 1) ≤ (nI 1)))]) (va_runS (As := [.int (nI 1), .int (nI 0), .int (nI 1)]) (rest := []) ⟨hx, hb, hml, hown, hts⟩ (c_X5_isWithin l G (nI 1) (nI 0) (nI 1)) (va_cwS 3 hts gX5_deck_X5_isWithin rfl rfl rfl (by decide +kernel) ⟨Nat.le_of_ble_eq_true rfl, Nat.le_of_ble_eq_true rfl⟩) (PC.preS hE P_nil) rfl rfl hl.1 rfl (lv_room (Nat.le_of_ble_eq_true rfl)) dX5_deck_26 ⟨Nat.zero_le _, Nat.zero_le _⟩) rfl ?_
          refine tI (y := nI 1) (b2_t (inN (by omega) (by omega) (by decide))) ?_
          refine lv_if_ne (tgt := 42) hx hb dX5_deck_29 (by decide) (fun c29 => ?_) (fun c29 => ?_)
          · skip
            refine lv_aload_n hx hb dX5_deck_42 rfl (lv_at hl 0 rfl) ?_
            refine va_get (D := G.1) (ci := 5) (v := .ref (an 0)) (C := RX5) (T := TX5) (N := 6) hx hb hts w_0 hown hE.1 hP 0 rfl rfl 0 (by decide) w_1 (fun _ h9 => h9) rfl dX5_deck_43 ?_
            refine lv_iload_n hx hb dX5_deck_46 rfl (lv_at hl 1 rfl) ?_
            replace hP : va_P G.1 vwCl (cST G an f v0 v1 w ++ ([(fe, .inr (5, [.ref (an 0), .ref ta, .ref sa, .ref ha, .ref oa, .int hsn]))] ++ ([]))) s.heap := P_perm br1 hP
            refine pcall (st1 := [.ref (an 12)]) (va_runV (As := [.int (nI 1)]) (rest := []) ⟨hx, hb, hml, hown, hts⟩ (c_X3_lineOnLane_1 l G (an 0) (an 1) (an 2) (an 3) (an 6) (an 9) (an 12) (an 15) (f 50) (f 51) (f 52) (f 53) (f 54) (f 55) (f 56)) (cwV 1 hts gX5_deck_X3_lineOnLane rfl rfl rfl (by decide +kernel) ⟨Nat.le_of_ble_eq_true rfl, Nat.le_of_ble_eq_true rfl⟩) (PC.preV hE (va_recv hE.1 hP (ci := 3) (q0 := 0) rfl rfl) (hP.sub [0] rfl)) rfl rfl hl.1 rfl (lv_room (Nat.le_of_ble_eq_true rfl)) dX5_deck_47 ⟨Nat.zero_le _, Nat.zero_le _⟩) rfl ?_
            refine lv_astore (lv' := [(4, .ref (an 12)), (0, .ref fe), (1, .int (nI 1)), (2, .int (nI j)), (3, .int (nI 1))]) hx hb dX5_deck_50 hl (by decide) rfl (fun ls hl => ?_)
            refine lv_iload_n hx hb dX5_deck_52 rfl (lv_at hl 4 rfl) ?_
            refine lv_if_ne (tgt := 65) hx hb dX5_deck_53 (by decide) (fun c53 => ?_) (fun c53 => ?_)
            · skip
              refine lv_aload hx hb dX5_deck_65 (lv_at hl 0 rfl) ?_
              refine lv_iload_n hx hb dX5_deck_67 rfl (lv_at hl 3 rfl) ?_
              refine pcall (st1 := [.int ((w 7) j)]) (va_runV (As := [.int (nI j)]) (rest := []) ⟨hx, hb, hml, hown, hts⟩ (c_X1_bankOf l G (an 12) (an 13) (an 14) 4 (nn f 88) (fLw f 1) (w 6) (w 7) (by omega) (by omega) j hjq9) (cwV 1 hts gX5_deck_X1_bankOf rfl rfl rfl (by decide +kernel) ⟨Nat.le_of_ble_eq_true rfl, Nat.le_of_ble_eq_true rfl⟩) (PC.preV hE (va_recv hE.1 hP (ci := 1) (q0 := 12) rfl rfl) (hP.sub [12, 13, 14] rfl)) rfl rfl hl.1 rfl (lv_room (Nat.le_of_ble_eq_true rfl)) dX5_deck_68 ⟨Nat.zero_le _, Nat.zero_le _⟩) rfl ?_
              refine tS (st' := [.int (f ((((79 + (9 * 1)) + 1) + (2 * j)) + 1))]) (congrArg (fun z => [Value.int z]) ((hcp.2.2.2 j hjq9).2.trans (congrArg f (by omega)))) ?_
              exact W.iret hx hb hr (fun t ht hW => ⟨rfl, ht⟩) (fun _ h => nomatch h) dX5_deck_71
            · skip
              exact absurd c53 (by decide)
          · skip
            exact absurd c29 (by decide)
      · skip
        exact absurd c6 (by decide)
set_option maxHeartbeats 4000000 in
set_option maxRecDepth 100000 in
theorem c_X5_deck_out (l : Launch) (G : eG) (fe ta sa ha oa : Nat) (hsn : Int32) (an : Nat → Nat) (f : Nat → Int32) (v0 v1 : Int32) (w : Nat → Nat → Int32) (hs : Shp f) (hcp : CplW f w) (b j : Nat) (hb2 : b < 2) (hj : j < 2147483648) (x : Nat) (hw2 : x < 2) (hjq : nn f (79 + 9 * b) ≤ j) : Met l yX5_deck wsX5_deck ({ frames := 1, cells := 0, slots := 0, locals := 22 }) (PC [.ref fe, .int (nI b), .int (nI j), .int (nI x)] G (fun H => va_P G.1 vwCl ([(fe, .inr (5, [.ref (an 0), .ref ta, .ref sa, .ref ha, .ref oa, .int hsn]))] ++ (cST G an f v0 v1 w ++ ([]))) H)) (PQ (some (.int ((-1))))) 0 0 noA := by
  refine ofB (cc := cX5_deck) (maxL := 5) (ret := (some .int)) (by decide) rfl (Nat.le_of_ble_eq_true rfl) ?_
  intro p e s m below meth c hx hb hr hlocks hml hown hin hts hE hI ls hl
  replace hown : s.vm.findClass RX5 = some m.cls := hown
  have hl : lv_has ls 5 [(0, .ref fe), (1, .int (nI b)), (2, .int (nI j)), (3, .int (nI x))] := hl
  have hP : va_P G.1 vwCl ([(fe, .inr (5, [.ref (an 0), .ref ta, .ref sa, .ref ha, .ref oa, .int hsn]))] ++ (cST G an f v0 v1 w ++ ([]))) s.heap := hI
  have w_0 : ∀ w ∈ u_ws RX5 TX5 6, w ∈ wsX5_deck := by decide +kernel
  have w_1 := hts (.fieldLink RX5 10 "CableFerry" "now" "LCableFerry$State;") (by decide +kernel)
  have q0 : nn f 57 ≤ 10 := (hs.2.1 0 (by omega)).2
  have q1 : nn f 68 ≤ 10 := (hs.2.1 1 (by omega)).2
  have n0 : nn f 79 ≤ 4 := (hs.1 0 (by omega)).2
  have n1 : nn f 88 ≤ 4 := (hs.1 1 (by omega)).2
  obtain ⟨h51, h51b⟩ := hs.2.2.1
  rcases (show b = 0 ∨ b = 1 by omega) with rfl | rfl
  · skip
    have hl : lv_has ls 5 [(0, .ref fe), (1, .int (nI 0)), (2, .int (nI j)), (3, .int (nI x))] := hl
    have hjq9 : nn f 79 ≤ j := hjq
    rcases (show x = 0 ∨ x = 1 by omega) with rfl | rfl
    · skip
      have hl : lv_has ls 5 [(0, .ref fe), (1, .int (nI 0)), (2, .int (nI j)), (3, .int (nI 0))] := hl
      refine lv_iload_n hx hb dX5_deck_0 rfl (lv_at hl 1 rfl) ?_
      refine lv_iconst (v := nI 0) hx hb dX5_deck_1 (by decide +kernel) ?_
      refine lv_iconst (v := nI 1) hx hb dX5_deck_2 (by decide +kernel) ?_
      refine pcall (st1 := [.int (b2 ((nI 0) ≤ (nI 0) ∧ (nI 0) ≤ (nI 1)))]) (va_runS (As := [.int (nI 0), .int (nI 0), .int (nI 1)]) (rest := []) ⟨hx, hb, hml, hown, hts⟩ (c_X5_isWithin l G (nI 0) (nI 0) (nI 1)) (va_cwS 3 hts gX5_deck_X5_isWithin rfl rfl rfl (by decide +kernel) ⟨Nat.le_of_ble_eq_true rfl, Nat.le_of_ble_eq_true rfl⟩) (PC.preS hE P_nil) rfl rfl hl.1 rfl (lv_room (Nat.le_of_ble_eq_true rfl)) dX5_deck_3 ⟨Nat.zero_le _, Nat.zero_le _⟩) rfl ?_
      refine tI (y := nI 1) (b2_t (inN (by omega) (by omega) (by decide))) ?_
      refine lv_if_ne (tgt := 19) hx hb dX5_deck_6 (by decide) (fun c6 => ?_) (fun c6 => ?_)
      · skip
        refine lv_iload_n hx hb dX5_deck_19 rfl (lv_at hl 2 rfl) ?_
        refine lv_if_lt (tgt := 32) hx hb dX5_deck_20 (by decide) (fun c20 => ?_) (fun c20 => ?_)
        · skip
          exact absurd c20 (nI_pos hj)
        · skip
          refine lv_iload_n hx hb dX5_deck_23 rfl (lv_at hl 3 rfl) ?_
          refine lv_iconst (v := nI 0) hx hb dX5_deck_24 (by decide +kernel) ?_
          refine lv_iconst (v := nI 1) hx hb dX5_deck_25 (by decide +kernel) ?_
          refine pcall (st1 := [.int (b2 ((nI 0) ≤ (nI 0) ∧ (nI 0) ≤ (nI 1)))]) (va_runS (As := [.int (nI 0), .int (nI 0), .int (nI 1)]) (rest := []) ⟨hx, hb, hml, hown, hts⟩ (c_X5_isWithin l G (nI 0) (nI 0) (nI 1)) (va_cwS 3 hts gX5_deck_X5_isWithin rfl rfl rfl (by decide +kernel) ⟨Nat.le_of_ble_eq_true rfl, Nat.le_of_ble_eq_true rfl⟩) (PC.preS hE P_nil) rfl rfl hl.1 rfl (lv_room (Nat.le_of_ble_eq_true rfl)) dX5_deck_26 ⟨Nat.zero_le _, Nat.zero_le _⟩) rfl ?_
          refine tI (y := nI 1) (b2_t (inN (by omega) (by omega) (by decide))) ?_
          refine lv_if_ne (tgt := 42) hx hb dX5_deck_29 (by decide) (fun c29 => ?_) (fun c29 => ?_)
          · skip
            refine lv_aload_n hx hb dX5_deck_42 rfl (lv_at hl 0 rfl) ?_
            refine va_get (D := G.1) (ci := 5) (v := .ref (an 0)) (C := RX5) (T := TX5) (N := 6) hx hb hts w_0 hown hE.1 hP 0 rfl rfl 0 (by decide) w_1 (fun _ h9 => h9) rfl dX5_deck_43 ?_
            refine lv_iload_n hx hb dX5_deck_46 rfl (lv_at hl 1 rfl) ?_
            replace hP : va_P G.1 vwCl (cST G an f v0 v1 w ++ ([(fe, .inr (5, [.ref (an 0), .ref ta, .ref sa, .ref ha, .ref oa, .int hsn]))] ++ ([]))) s.heap := P_perm br1 hP
            refine pcall (st1 := [.ref (an 9)]) (va_runV (As := [.int (nI 0)]) (rest := []) ⟨hx, hb, hml, hown, hts⟩ (c_X3_lineOnLane_0 l G (an 0) (an 1) (an 2) (an 3) (an 6) (an 9) (an 12) (an 15) (f 50) (f 51) (f 52) (f 53) (f 54) (f 55) (f 56)) (cwV 1 hts gX5_deck_X3_lineOnLane rfl rfl rfl (by decide +kernel) ⟨Nat.le_of_ble_eq_true rfl, Nat.le_of_ble_eq_true rfl⟩) (PC.preV hE (va_recv hE.1 hP (ci := 3) (q0 := 0) rfl rfl) (hP.sub [0] rfl)) rfl rfl hl.1 rfl (lv_room (Nat.le_of_ble_eq_true rfl)) dX5_deck_47 ⟨Nat.zero_le _, Nat.zero_le _⟩) rfl ?_
            refine lv_astore (lv' := [(4, .ref (an 9)), (0, .ref fe), (1, .int (nI 0)), (2, .int (nI j)), (3, .int (nI 0))]) hx hb dX5_deck_50 hl (by decide) rfl (fun ls hl => ?_)
            refine lv_iload_n hx hb dX5_deck_52 rfl (lv_at hl 4 rfl) ?_
            refine lv_if_ne (tgt := 65) hx hb dX5_deck_53 (by decide) (fun c53 => ?_) (fun c53 => ?_)
            · skip
              exact absurd c53 (by decide)
            · skip
              refine lv_aload hx hb dX5_deck_56 (lv_at hl 0 rfl) ?_
              refine lv_iload_n hx hb dX5_deck_58 rfl (lv_at hl 3 rfl) ?_
              refine pcall (st1 := [.int (-1)]) (va_runV (As := [.int (nI j)]) (rest := []) ⟨hx, hb, hml, hown, hts⟩ (c_X1_weightOf_out l G (an 9) (an 10) (an 11) 4 (nn f 79) (fLw f 0) (w 4) (w 5) (by omega) (by omega) j (by omega) (by omega)) (cwV 1 hts gX5_deck_X1_weightOf rfl rfl rfl (by decide +kernel) ⟨Nat.le_of_ble_eq_true rfl, Nat.le_of_ble_eq_true rfl⟩) (PC.preV hE (va_recv hE.1 hP (ci := 1) (q0 := 9) rfl rfl) (hP.sub [9, 10, 11] rfl)) rfl rfl hl.1 rfl (lv_room (Nat.le_of_ble_eq_true rfl)) dX5_deck_59 ⟨Nat.zero_le _, Nat.zero_le _⟩) rfl ?_
              refine lv_goto (tgt := 71) hx hb dX5_deck_62 (by decide) ?_
              exact W.iret hx hb hr (fun t ht hW => ⟨rfl, ht⟩) (fun _ h => nomatch h) dX5_deck_71
          · skip
            exact absurd c29 (by decide)
      · skip
        exact absurd c6 (by decide)
    · skip
      have hl : lv_has ls 5 [(0, .ref fe), (1, .int (nI 0)), (2, .int (nI j)), (3, .int (nI 1))] := hl
      refine lv_iload_n hx hb dX5_deck_0 rfl (lv_at hl 1 rfl) ?_
      refine lv_iconst (v := nI 0) hx hb dX5_deck_1 (by decide +kernel) ?_
      refine lv_iconst (v := nI 1) hx hb dX5_deck_2 (by decide +kernel) ?_
      refine pcall (st1 := [.int (b2 ((nI 0) ≤ (nI 0) ∧ (nI 0) ≤ (nI 1)))]) (va_runS (As := [.int (nI 0), .int (nI 0), .int (nI 1)]) (rest := []) ⟨hx, hb, hml, hown, hts⟩ (c_X5_isWithin l G (nI 0) (nI 0) (nI 1)) (va_cwS 3 hts gX5_deck_X5_isWithin rfl rfl rfl (by decide +kernel) ⟨Nat.le_of_ble_eq_true rfl, Nat.le_of_ble_eq_true rfl⟩) (PC.preS hE P_nil) rfl rfl hl.1 rfl (lv_room (Nat.le_of_ble_eq_true rfl)) dX5_deck_3 ⟨Nat.zero_le _, Nat.zero_le _⟩) rfl ?_
      refine tI (y := nI 1) (b2_t (inN (by omega) (by omega) (by decide))) ?_
      refine lv_if_ne (tgt := 19) hx hb dX5_deck_6 (by decide) (fun c6 => ?_) (fun c6 => ?_)
      · skip
        refine lv_iload_n hx hb dX5_deck_19 rfl (lv_at hl 2 rfl) ?_
        refine lv_if_lt (tgt := 32) hx hb dX5_deck_20 (by decide) (fun c20 => ?_) (fun c20 => ?_)
        · skip
          exact absurd c20 (nI_pos hj)
        · skip
          refine lv_iload_n hx hb dX5_deck_23 rfl (lv_at hl 3 rfl) ?_
          refine lv_iconst (v := nI 0) hx hb dX5_deck_24 (by decide +kernel) ?_
          refine lv_iconst (v := nI 1) hx hb dX5_deck_25 (by decide +kernel) ?_
          refine pcall (st1 := [.int (b2 ((nI 0) ≤ (nI 1) ∧ (nI 1) ≤ (nI 1)))]) (va_runS (As := [.int (nI 1), .int (nI 0), .int (nI 1)]) (rest := []) ⟨hx, hb, hml, hown, hts⟩ (c_X5_isWithin l G (nI 1) (nI 0) (nI 1)) (va_cwS 3 hts gX5_deck_X5_isWithin rfl rfl rfl (by decide +kernel) ⟨Nat.le_of_ble_eq_true rfl, Nat.le_of_ble_eq_true rfl⟩) (PC.preS hE P_nil) rfl rfl hl.1 rfl (lv_room (Nat.le_of_ble_eq_true rfl)) dX5_deck_26 ⟨Nat.zero_le _, Nat.zero_le _⟩) rfl ?_
          refine tI (y := nI 1) (b2_t (inN (by omega) (by omega) (by decide))) ?_
          refine lv_if_ne (tgt := 42) hx hb dX5_deck_29 (by decide) (fun c29 => ?_) (fun c29 => ?_)
          · skip
            refine lv_aload_n hx hb dX5_deck_42 rfl (lv_at hl 0 rfl) ?_
            refine va_get (D := G.1) (ci := 5) (v := .ref (an 0)) (C := RX5) (T := TX5) (N := 6) hx hb hts w_0 hown hE.1 hP 0 rfl rfl 0 (by decide) w_1 (fun _ h9 => h9) rfl dX5_deck_43 ?_
            refine lv_iload_n hx hb dX5_deck_46 rfl (lv_at hl 1 rfl) ?_
            replace hP : va_P G.1 vwCl (cST G an f v0 v1 w ++ ([(fe, .inr (5, [.ref (an 0), .ref ta, .ref sa, .ref ha, .ref oa, .int hsn]))] ++ ([]))) s.heap := P_perm br1 hP
            refine pcall (st1 := [.ref (an 9)]) (va_runV (As := [.int (nI 0)]) (rest := []) ⟨hx, hb, hml, hown, hts⟩ (c_X3_lineOnLane_0 l G (an 0) (an 1) (an 2) (an 3) (an 6) (an 9) (an 12) (an 15) (f 50) (f 51) (f 52) (f 53) (f 54) (f 55) (f 56)) (cwV 1 hts gX5_deck_X3_lineOnLane rfl rfl rfl (by decide +kernel) ⟨Nat.le_of_ble_eq_true rfl, Nat.le_of_ble_eq_true rfl⟩) (PC.preV hE (va_recv hE.1 hP (ci := 3) (q0 := 0) rfl rfl) (hP.sub [0] rfl)) rfl rfl hl.1 rfl (lv_room (Nat.le_of_ble_eq_true rfl)) dX5_deck_47 ⟨Nat.zero_le _, Nat.zero_le _⟩) rfl ?_
            refine lv_astore (lv' := [(4, .ref (an 9)), (0, .ref fe), (1, .int (nI 0)), (2, .int (nI j)), (3, .int (nI 1))]) hx hb dX5_deck_50 hl (by decide) rfl (fun ls hl => ?_)
            refine lv_iload_n hx hb dX5_deck_52 rfl (lv_at hl 4 rfl) ?_
            refine lv_if_ne (tgt := 65) hx hb dX5_deck_53 (by decide) (fun c53 => ?_) (fun c53 => ?_)
            · skip
              refine lv_aload hx hb dX5_deck_65 (lv_at hl 0 rfl) ?_
              refine lv_iload_n hx hb dX5_deck_67 rfl (lv_at hl 3 rfl) ?_
              refine pcall (st1 := [.int (-1)]) (va_runV (As := [.int (nI j)]) (rest := []) ⟨hx, hb, hml, hown, hts⟩ (c_X1_bankOf_out l G (an 9) (an 10) (an 11) 4 (nn f 79) (fLw f 0) (w 4) (w 5) (by omega) (by omega) j (by omega) (by omega)) (cwV 1 hts gX5_deck_X1_bankOf rfl rfl rfl (by decide +kernel) ⟨Nat.le_of_ble_eq_true rfl, Nat.le_of_ble_eq_true rfl⟩) (PC.preV hE (va_recv hE.1 hP (ci := 1) (q0 := 9) rfl rfl) (hP.sub [9, 10, 11] rfl)) rfl rfl hl.1 rfl (lv_room (Nat.le_of_ble_eq_true rfl)) dX5_deck_68 ⟨Nat.zero_le _, Nat.zero_le _⟩) rfl ?_
              exact W.iret hx hb hr (fun t ht hW => ⟨rfl, ht⟩) (fun _ h => nomatch h) dX5_deck_71
            · skip
              exact absurd c53 (by decide)
          · skip
            exact absurd c29 (by decide)
      · skip
        exact absurd c6 (by decide)
  · skip
    have hl : lv_has ls 5 [(0, .ref fe), (1, .int (nI 1)), (2, .int (nI j)), (3, .int (nI x))] := hl
    have hjq9 : nn f 88 ≤ j := hjq
    rcases (show x = 0 ∨ x = 1 by omega) with rfl | rfl
    · skip
      have hl : lv_has ls 5 [(0, .ref fe), (1, .int (nI 1)), (2, .int (nI j)), (3, .int (nI 0))] := hl
      refine lv_iload_n hx hb dX5_deck_0 rfl (lv_at hl 1 rfl) ?_
      refine lv_iconst (v := nI 0) hx hb dX5_deck_1 (by decide +kernel) ?_
      refine lv_iconst (v := nI 1) hx hb dX5_deck_2 (by decide +kernel) ?_
      refine pcall (st1 := [.int (b2 ((nI 0) ≤ (nI 1) ∧ (nI 1) ≤ (nI 1)))]) (va_runS (As := [.int (nI 1), .int (nI 0), .int (nI 1)]) (rest := []) ⟨hx, hb, hml, hown, hts⟩ (c_X5_isWithin l G (nI 1) (nI 0) (nI 1)) (va_cwS 3 hts gX5_deck_X5_isWithin rfl rfl rfl (by decide +kernel) ⟨Nat.le_of_ble_eq_true rfl, Nat.le_of_ble_eq_true rfl⟩) (PC.preS hE P_nil) rfl rfl hl.1 rfl (lv_room (Nat.le_of_ble_eq_true rfl)) dX5_deck_3 ⟨Nat.zero_le _, Nat.zero_le _⟩) rfl ?_
      refine tI (y := nI 1) (b2_t (inN (by omega) (by omega) (by decide))) ?_
      refine lv_if_ne (tgt := 19) hx hb dX5_deck_6 (by decide) (fun c6 => ?_) (fun c6 => ?_)
      · skip
        refine lv_iload_n hx hb dX5_deck_19 rfl (lv_at hl 2 rfl) ?_
        refine lv_if_lt (tgt := 32) hx hb dX5_deck_20 (by decide) (fun c20 => ?_) (fun c20 => ?_)
        · skip
          exact absurd c20 (nI_pos hj)
        · skip
          refine lv_iload_n hx hb dX5_deck_23 rfl (lv_at hl 3 rfl) ?_
          refine lv_iconst (v := nI 0) hx hb dX5_deck_24 (by decide +kernel) ?_
          refine lv_iconst (v := nI 1) hx hb dX5_deck_25 (by decide +kernel) ?_
          refine pcall (st1 := [.int (b2 ((nI 0) ≤ (nI 0) ∧ (nI 0) ≤ (nI 1)))]) (va_runS (As := [.int (nI 0), .int (nI 0), .int (nI 1)]) (rest := []) ⟨hx, hb, hml, hown, hts⟩ (c_X5_isWithin l G (nI 0) (nI 0) (nI 1)) (va_cwS 3 hts gX5_deck_X5_isWithin rfl rfl rfl (by decide +kernel) ⟨Nat.le_of_ble_eq_true rfl, Nat.le_of_ble_eq_true rfl⟩) (PC.preS hE P_nil) rfl rfl hl.1 rfl (lv_room (Nat.le_of_ble_eq_true rfl)) dX5_deck_26 ⟨Nat.zero_le _, Nat.zero_le _⟩) rfl ?_
          refine tI (y := nI 1) (b2_t (inN (by omega) (by omega) (by decide))) ?_
          refine lv_if_ne (tgt := 42) hx hb dX5_deck_29 (by decide) (fun c29 => ?_) (fun c29 => ?_)
          · skip
            refine lv_aload_n hx hb dX5_deck_42 rfl (lv_at hl 0 rfl) ?_
            refine va_get (D := G.1) (ci := 5) (v := .ref (an 0)) (C := RX5) (T := TX5) (N := 6) hx hb hts w_0 hown hE.1 hP 0 rfl rfl 0 (by decide) w_1 (fun _ h9 => h9) rfl dX5_deck_43 ?_
            refine lv_iload_n hx hb dX5_deck_46 rfl (lv_at hl 1 rfl) ?_
            replace hP : va_P G.1 vwCl (cST G an f v0 v1 w ++ ([(fe, .inr (5, [.ref (an 0), .ref ta, .ref sa, .ref ha, .ref oa, .int hsn]))] ++ ([]))) s.heap := P_perm br1 hP
            refine pcall (st1 := [.ref (an 12)]) (va_runV (As := [.int (nI 1)]) (rest := []) ⟨hx, hb, hml, hown, hts⟩ (c_X3_lineOnLane_1 l G (an 0) (an 1) (an 2) (an 3) (an 6) (an 9) (an 12) (an 15) (f 50) (f 51) (f 52) (f 53) (f 54) (f 55) (f 56)) (cwV 1 hts gX5_deck_X3_lineOnLane rfl rfl rfl (by decide +kernel) ⟨Nat.le_of_ble_eq_true rfl, Nat.le_of_ble_eq_true rfl⟩) (PC.preV hE (va_recv hE.1 hP (ci := 3) (q0 := 0) rfl rfl) (hP.sub [0] rfl)) rfl rfl hl.1 rfl (lv_room (Nat.le_of_ble_eq_true rfl)) dX5_deck_47 ⟨Nat.zero_le _, Nat.zero_le _⟩) rfl ?_
            refine lv_astore (lv' := [(4, .ref (an 12)), (0, .ref fe), (1, .int (nI 1)), (2, .int (nI j)), (3, .int (nI 0))]) hx hb dX5_deck_50 hl (by decide) rfl (fun ls hl => ?_)
            refine lv_iload_n hx hb dX5_deck_52 rfl (lv_at hl 4 rfl) ?_
            refine lv_if_ne (tgt := 65) hx hb dX5_deck_53 (by decide) (fun c53 => ?_) (fun c53 => ?_)
            · skip
              exact absurd c53 (by decide)
            · skip
              refine lv_aload hx hb dX5_deck_56 (lv_at hl 0 rfl) ?_
              refine lv_iload_n hx hb dX5_deck_58 rfl (lv_at hl 3 rfl) ?_
              refine pcall (st1 := [.int (-1)]) (va_runV (As := [.int (nI j)]) (rest := []) ⟨hx, hb, hml, hown, hts⟩ (c_X1_weightOf_out l G (an 12) (an 13) (an 14) 4 (nn f 88) (fLw f 1) (w 6) (w 7) (by omega) (by omega) j (by omega) (by omega)) (cwV 1 hts gX5_deck_X1_weightOf rfl rfl rfl (by decide +kernel) ⟨Nat.le_of_ble_eq_true rfl, Nat.le_of_ble_eq_true rfl⟩) (PC.preV hE (va_recv hE.1 hP (ci := 1) (q0 := 12) rfl rfl) (hP.sub [12, 13, 14] rfl)) rfl rfl hl.1 rfl (lv_room (Nat.le_of_ble_eq_true rfl)) dX5_deck_59 ⟨Nat.zero_le _, Nat.zero_le _⟩) rfl ?_
              refine lv_goto (tgt := 71) hx hb dX5_deck_62 (by decide) ?_
              exact W.iret hx hb hr (fun t ht hW => ⟨rfl, ht⟩) (fun _ h => nomatch h) dX5_deck_71
          · skip
            exact absurd c29 (by decide)
      · skip
        exact absurd c6 (by decide)
    · skip
      have hl : lv_has ls 5 [(0, .ref fe), (1, .int (nI 1)), (2, .int (nI j)), (3, .int (nI 1))] := hl
      refine lv_iload_n hx hb dX5_deck_0 rfl (lv_at hl 1 rfl) ?_
      refine lv_iconst (v := nI 0) hx hb dX5_deck_1 (by decide +kernel) ?_
      refine lv_iconst (v := nI 1) hx hb dX5_deck_2 (by decide +kernel) ?_
      refine pcall (st1 := [.int (b2 ((nI 0) ≤ (nI 1) ∧ (nI 1) ≤ (nI 1)))]) (va_runS (As := [.int (nI 1), .int (nI 0), .int (nI 1)]) (rest := []) ⟨hx, hb, hml, hown, hts⟩ (c_X5_isWithin l G (nI 1) (nI 0) (nI 1)) (va_cwS 3 hts gX5_deck_X5_isWithin rfl rfl rfl (by decide +kernel) ⟨Nat.le_of_ble_eq_true rfl, Nat.le_of_ble_eq_true rfl⟩) (PC.preS hE P_nil) rfl rfl hl.1 rfl (lv_room (Nat.le_of_ble_eq_true rfl)) dX5_deck_3 ⟨Nat.zero_le _, Nat.zero_le _⟩) rfl ?_
      refine tI (y := nI 1) (b2_t (inN (by omega) (by omega) (by decide))) ?_
      refine lv_if_ne (tgt := 19) hx hb dX5_deck_6 (by decide) (fun c6 => ?_) (fun c6 => ?_)
      · skip
        refine lv_iload_n hx hb dX5_deck_19 rfl (lv_at hl 2 rfl) ?_
        refine lv_if_lt (tgt := 32) hx hb dX5_deck_20 (by decide) (fun c20 => ?_) (fun c20 => ?_)
        · skip
          exact absurd c20 (nI_pos hj)
        · skip
          refine lv_iload_n hx hb dX5_deck_23 rfl (lv_at hl 3 rfl) ?_
          refine lv_iconst (v := nI 0) hx hb dX5_deck_24 (by decide +kernel) ?_
          refine lv_iconst (v := nI 1) hx hb dX5_deck_25 (by decide +kernel) ?_
          refine pcall (st1 := [.int (b2 ((nI 0) ≤ (nI 1) ∧ (nI 1) ≤ (nI 1)))]) (va_runS (As := [.int (nI 1), .int (nI 0), .int (nI 1)]) (rest := []) ⟨hx, hb, hml, hown, hts⟩ (c_X5_isWithin l G (nI 1) (nI 0) (nI 1)) (va_cwS 3 hts gX5_deck_X5_isWithin rfl rfl rfl (by decide +kernel) ⟨Nat.le_of_ble_eq_true rfl, Nat.le_of_ble_eq_true rfl⟩) (PC.preS hE P_nil) rfl rfl hl.1 rfl (lv_room (Nat.le_of_ble_eq_true rfl)) dX5_deck_26 ⟨Nat.zero_le _, Nat.zero_le _⟩) rfl ?_
          refine tI (y := nI 1) (b2_t (inN (by omega) (by omega) (by decide))) ?_
          refine lv_if_ne (tgt := 42) hx hb dX5_deck_29 (by decide) (fun c29 => ?_) (fun c29 => ?_)
          · skip
            refine lv_aload_n hx hb dX5_deck_42 rfl (lv_at hl 0 rfl) ?_
            refine va_get (D := G.1) (ci := 5) (v := .ref (an 0)) (C := RX5) (T := TX5) (N := 6) hx hb hts w_0 hown hE.1 hP 0 rfl rfl 0 (by decide) w_1 (fun _ h9 => h9) rfl dX5_deck_43 ?_
            refine lv_iload_n hx hb dX5_deck_46 rfl (lv_at hl 1 rfl) ?_
            replace hP : va_P G.1 vwCl (cST G an f v0 v1 w ++ ([(fe, .inr (5, [.ref (an 0), .ref ta, .ref sa, .ref ha, .ref oa, .int hsn]))] ++ ([]))) s.heap := P_perm br1 hP
            refine pcall (st1 := [.ref (an 12)]) (va_runV (As := [.int (nI 1)]) (rest := []) ⟨hx, hb, hml, hown, hts⟩ (c_X3_lineOnLane_1 l G (an 0) (an 1) (an 2) (an 3) (an 6) (an 9) (an 12) (an 15) (f 50) (f 51) (f 52) (f 53) (f 54) (f 55) (f 56)) (cwV 1 hts gX5_deck_X3_lineOnLane rfl rfl rfl (by decide +kernel) ⟨Nat.le_of_ble_eq_true rfl, Nat.le_of_ble_eq_true rfl⟩) (PC.preV hE (va_recv hE.1 hP (ci := 3) (q0 := 0) rfl rfl) (hP.sub [0] rfl)) rfl rfl hl.1 rfl (lv_room (Nat.le_of_ble_eq_true rfl)) dX5_deck_47 ⟨Nat.zero_le _, Nat.zero_le _⟩) rfl ?_
            refine lv_astore (lv' := [(4, .ref (an 12)), (0, .ref fe), (1, .int (nI 1)), (2, .int (nI j)), (3, .int (nI 1))]) hx hb dX5_deck_50 hl (by decide) rfl (fun ls hl => ?_)
            refine lv_iload_n hx hb dX5_deck_52 rfl (lv_at hl 4 rfl) ?_
            refine lv_if_ne (tgt := 65) hx hb dX5_deck_53 (by decide) (fun c53 => ?_) (fun c53 => ?_)
            · skip
              refine lv_aload hx hb dX5_deck_65 (lv_at hl 0 rfl) ?_
              refine lv_iload_n hx hb dX5_deck_67 rfl (lv_at hl 3 rfl) ?_
              refine pcall (st1 := [.int (-1)]) (va_runV (As := [.int (nI j)]) (rest := []) ⟨hx, hb, hml, hown, hts⟩ (c_X1_bankOf_out l G (an 12) (an 13) (an 14) 4 (nn f 88) (fLw f 1) (w 6) (w 7) (by omega) (by omega) j (by omega) (by omega)) (cwV 1 hts gX5_deck_X1_bankOf rfl rfl rfl (by decide +kernel) ⟨Nat.le_of_ble_eq_true rfl, Nat.le_of_ble_eq_true rfl⟩) (PC.preV hE (va_recv hE.1 hP (ci := 1) (q0 := 12) rfl rfl) (hP.sub [12, 13, 14] rfl)) rfl rfl hl.1 rfl (lv_room (Nat.le_of_ble_eq_true rfl)) dX5_deck_68 ⟨Nat.zero_le _, Nat.zero_le _⟩) rfl ?_
              exact W.iret hx hb hr (fun t ht hW => ⟨rfl, ht⟩) (fun _ h => nomatch h) dX5_deck_71
            · skip
              exact absurd c53 (by decide)
          · skip
            exact absurd c29 (by decide)
      · skip
        exact absurd c6 (by decide)
set_option maxHeartbeats 4000000 in
set_option maxRecDepth 100000 in
theorem c_X5_deck_e1 (l : Launch) (hlt : l.stackTraces = false) (G : eG) (fe : Nat) (p0 p1 p2 : Int32) (hNo : ¬ (nI 0 ≤ p0 ∧ p0 ≤ nI 1)) : vx_Met l yX5_deck wsX5_deck ({ frames := 6, cells := 1, slots := 6, locals := 82 }) (PJ [.ref fe, .int p0, .int p1, .int p2] G (fun H => va_P G.1 vwCl [] H)) QF (XE "java/lang/IndexOutOfBoundsException") 1 6 noA := by
  refine ofBX (cc := cX5_deck) (maxL := 5) (ret := (some .int)) (by decide) rfl (Nat.le_of_ble_eq_true rfl) ?_
  intro p e s m below meth c hx hb hr hlocks hml hown hin hts hE hJ hI ht ls hl
  replace hown : s.vm.findClass RX5 = some m.cls := hown
  have hl : lv_has ls 5 [(0, .ref fe), (1, .int p0), (2, .int p1), (3, .int p2)] := hl
  have hP : va_P G.1 vwCl [] s.heap := hI
  skip
  refine lv_iload_n hx hb dX5_deck_0 rfl (lv_at hl 1 rfl) ?_
  refine lv_iconst (v := nI 0) hx hb dX5_deck_1 (by decide +kernel) ?_
  refine lv_iconst (v := nI 1) hx hb dX5_deck_2 (by decide +kernel) ?_
  refine pcall (st1 := [.int (b2 ((nI 0) ≤ p0 ∧ p0 ≤ (nI 1)))]) (va_runS (As := [.int p0, .int (nI 0), .int (nI 1)]) (rest := []) ⟨hx, hb, hml, hown, hts⟩ (c_X5_isWithin l G p0 (nI 0) (nI 1)) (va_cwS 3 hts gX5_deck_X5_isWithin rfl rfl rfl (by decide +kernel) ⟨Nat.le_of_ble_eq_true rfl, Nat.le_of_ble_eq_true rfl⟩) (PC.preS hE P_nil) rfl rfl hl.1 rfl (lv_room (Nat.le_of_ble_eq_true rfl)) dX5_deck_3 ⟨Nat.zero_le _, Nat.zero_le _⟩) rfl ?_
  refine tI (y := nI 0) (b2_f hNo) ?_
  refine lv_if_ne (tgt := 19) hx hb dX5_deck_6 (by decide) (fun c6 => ?_) (fun c6 => ?_)
  · skip
    exact absurd c6 (by decide)
  · skip
    exact xthrow (text := "no such lane") hx hb hlt hown rfl (by decide +kernel) (by decide +kernel) hts (by decide +kernel) (by decide +kernel) (fun _ h => List.mem_cons_of_mem _ (List.mem_append_left _ (List.mem_append_right _ h))) (by decide +kernel) xg_IOB.1 xg_IOB.2 hJ (hl.1.trans hml.symm) dX5_deck_9 dX5_deck_12 dX5_deck_13 dX5_deck_15 dX5_deck_18 ht (Nat.le_of_ble_eq_true rfl) (Nat.le_of_ble_eq_true rfl) (Nat.le_of_ble_eq_true rfl) (Nat.le_of_ble_eq_true rfl) hlocks
set_option maxHeartbeats 4000000 in
set_option maxRecDepth 100000 in
theorem c_X5_deck_e2a (l : Launch) (hlt : l.stackTraces = false) (G : eG) (fe : Nat) (p0 p1 p2 : Int32) (h1 : nI 0 ≤ p0 ∧ p0 ≤ nI 1) (hNo : p1 < 0) : vx_Met l yX5_deck wsX5_deck ({ frames := 6, cells := 1, slots := 6, locals := 82 }) (PJ [.ref fe, .int p0, .int p1, .int p2] G (fun H => va_P G.1 vwCl [] H)) QF (XE "java/lang/IllegalArgumentException") 1 6 noA := by
  refine ofBX (cc := cX5_deck) (maxL := 5) (ret := (some .int)) (by decide) rfl (Nat.le_of_ble_eq_true rfl) ?_
  intro p e s m below meth c hx hb hr hlocks hml hown hin hts hE hJ hI ht ls hl
  replace hown : s.vm.findClass RX5 = some m.cls := hown
  have hl : lv_has ls 5 [(0, .ref fe), (1, .int p0), (2, .int p1), (3, .int p2)] := hl
  have hP : va_P G.1 vwCl [] s.heap := hI
  skip
  refine lv_iload_n hx hb dX5_deck_0 rfl (lv_at hl 1 rfl) ?_
  refine lv_iconst (v := nI 0) hx hb dX5_deck_1 (by decide +kernel) ?_
  refine lv_iconst (v := nI 1) hx hb dX5_deck_2 (by decide +kernel) ?_
  refine pcall (st1 := [.int (b2 ((nI 0) ≤ p0 ∧ p0 ≤ (nI 1)))]) (va_runS (As := [.int p0, .int (nI 0), .int (nI 1)]) (rest := []) ⟨hx, hb, hml, hown, hts⟩ (c_X5_isWithin l G p0 (nI 0) (nI 1)) (va_cwS 3 hts gX5_deck_X5_isWithin rfl rfl rfl (by decide +kernel) ⟨Nat.le_of_ble_eq_true rfl, Nat.le_of_ble_eq_true rfl⟩) (PC.preS hE P_nil) rfl rfl hl.1 rfl (lv_room (Nat.le_of_ble_eq_true rfl)) dX5_deck_3 ⟨Nat.zero_le _, Nat.zero_le _⟩) rfl ?_
  refine tI (y := nI 1) (b2_t h1) ?_
  refine lv_if_ne (tgt := 19) hx hb dX5_deck_6 (by decide) (fun c6 => ?_) (fun c6 => ?_)
  · skip
    refine lv_iload_n hx hb dX5_deck_19 rfl (lv_at hl 2 rfl) ?_
    refine lv_if_lt (tgt := 32) hx hb dX5_deck_20 (by decide) (fun c20 => ?_) (fun c20 => ?_)
    · skip
      exact xthrow (text := "place is below 0, or what is not 0 or 1") hx hb hlt hown rfl (by decide +kernel) (by decide +kernel) hts (by decide +kernel) (by decide +kernel) (fun _ h => List.mem_cons_of_mem _ (List.mem_append_right _ h)) (by decide +kernel) xg_IAE.1 xg_IAE.2 hJ (hl.1.trans hml.symm) dX5_deck_32 dX5_deck_35 dX5_deck_36 dX5_deck_38 dX5_deck_41 ht (Nat.le_of_ble_eq_true rfl) (Nat.le_of_ble_eq_true rfl) (Nat.le_of_ble_eq_true rfl) (Nat.le_of_ble_eq_true rfl) hlocks
    · skip
      exact absurd hNo c20
  · skip
    exact absurd c6 (by decide)
set_option maxHeartbeats 4000000 in
set_option maxRecDepth 100000 in
theorem c_X5_deck_e2b (l : Launch) (hlt : l.stackTraces = false) (G : eG) (fe : Nat) (p0 p1 p2 : Int32) (h1 : nI 0 ≤ p0 ∧ p0 ≤ nI 1) (hE0 : ¬ p1 < 0) (hNo : ¬ (nI 0 ≤ p2 ∧ p2 ≤ nI 1)) : vx_Met l yX5_deck wsX5_deck ({ frames := 6, cells := 1, slots := 6, locals := 82 }) (PJ [.ref fe, .int p0, .int p1, .int p2] G (fun H => va_P G.1 vwCl [] H)) QF (XE "java/lang/IllegalArgumentException") 1 6 noA := by
  refine ofBX (cc := cX5_deck) (maxL := 5) (ret := (some .int)) (by decide) rfl (Nat.le_of_ble_eq_true rfl) ?_
  intro p e s m below meth c hx hb hr hlocks hml hown hin hts hE hJ hI ht ls hl
  replace hown : s.vm.findClass RX5 = some m.cls := hown
  have hl : lv_has ls 5 [(0, .ref fe), (1, .int p0), (2, .int p1), (3, .int p2)] := hl
  have hP : va_P G.1 vwCl [] s.heap := hI
  skip
  refine lv_iload_n hx hb dX5_deck_0 rfl (lv_at hl 1 rfl) ?_
  refine lv_iconst (v := nI 0) hx hb dX5_deck_1 (by decide +kernel) ?_
  refine lv_iconst (v := nI 1) hx hb dX5_deck_2 (by decide +kernel) ?_
  refine pcall (st1 := [.int (b2 ((nI 0) ≤ p0 ∧ p0 ≤ (nI 1)))]) (va_runS (As := [.int p0, .int (nI 0), .int (nI 1)]) (rest := []) ⟨hx, hb, hml, hown, hts⟩ (c_X5_isWithin l G p0 (nI 0) (nI 1)) (va_cwS 3 hts gX5_deck_X5_isWithin rfl rfl rfl (by decide +kernel) ⟨Nat.le_of_ble_eq_true rfl, Nat.le_of_ble_eq_true rfl⟩) (PC.preS hE P_nil) rfl rfl hl.1 rfl (lv_room (Nat.le_of_ble_eq_true rfl)) dX5_deck_3 ⟨Nat.zero_le _, Nat.zero_le _⟩) rfl ?_
  refine tI (y := nI 1) (b2_t h1) ?_
  refine lv_if_ne (tgt := 19) hx hb dX5_deck_6 (by decide) (fun c6 => ?_) (fun c6 => ?_)
  · skip
    refine lv_iload_n hx hb dX5_deck_19 rfl (lv_at hl 2 rfl) ?_
    refine lv_if_lt (tgt := 32) hx hb dX5_deck_20 (by decide) (fun c20 => ?_) (fun c20 => ?_)
    · skip
      exact absurd c20 hE0
    · skip
      refine lv_iload_n hx hb dX5_deck_23 rfl (lv_at hl 3 rfl) ?_
      refine lv_iconst (v := nI 0) hx hb dX5_deck_24 (by decide +kernel) ?_
      refine lv_iconst (v := nI 1) hx hb dX5_deck_25 (by decide +kernel) ?_
      refine pcall (st1 := [.int (b2 ((nI 0) ≤ p2 ∧ p2 ≤ (nI 1)))]) (va_runS (As := [.int p2, .int (nI 0), .int (nI 1)]) (rest := []) ⟨hx, hb, hml, hown, hts⟩ (c_X5_isWithin l G p2 (nI 0) (nI 1)) (va_cwS 3 hts gX5_deck_X5_isWithin rfl rfl rfl (by decide +kernel) ⟨Nat.le_of_ble_eq_true rfl, Nat.le_of_ble_eq_true rfl⟩) (PC.preS hE P_nil) rfl rfl hl.1 rfl (lv_room (Nat.le_of_ble_eq_true rfl)) dX5_deck_26 ⟨Nat.zero_le _, Nat.zero_le _⟩) rfl ?_
      refine tI (y := nI 0) (b2_f hNo) ?_
      refine lv_if_ne (tgt := 42) hx hb dX5_deck_29 (by decide) (fun c29 => ?_) (fun c29 => ?_)
      · skip
        exact absurd c29 (by decide)
      · skip
        exact xthrow (text := "place is below 0, or what is not 0 or 1") hx hb hlt hown rfl (by decide +kernel) (by decide +kernel) hts (by decide +kernel) (by decide +kernel) (fun _ h => List.mem_cons_of_mem _ (List.mem_append_right _ h)) (by decide +kernel) xg_IAE.1 xg_IAE.2 hJ (hl.1.trans hml.symm) dX5_deck_32 dX5_deck_35 dX5_deck_36 dX5_deck_38 dX5_deck_41 ht (Nat.le_of_ble_eq_true rfl) (Nat.le_of_ble_eq_true rfl) (Nat.le_of_ble_eq_true rfl) (Nat.le_of_ble_eq_true rfl) hlocks
  · skip
    exact absurd c6 (by decide)
set_option maxHeartbeats 4000000 in
set_option maxRecDepth 100000 in
theorem c_X5_count_ok (l : Launch) (G : eG) (fe ta sa ha oa : Nat) (hsn : Int32) (an : Nat → Nat) (f : Nat → Int32) (v0 v1 : Int32) (w : Nat → Nat → Int32) (sv old sz : Nat) (ad : Nat → Nat) (hs : Shp f) (x : Nat) (hw : x < 14) : Met l yX5_count wsX5_count ({ frames := 2, cells := 0, slots := 0, locals := 41 }) (PC [.ref fe, .int (nI x)] G (fun H => va_P G.1 vwCl ([(fe, .inr (5, [.ref (an 0), .ref ta, .ref sa, .ref ha, .ref oa, .int hsn]))] ++ (cST G an f v0 v1 w ++ (cHI G ha sv old sz ad ++ ([])))) H)) (PQ (some (.int (fCnt f sz x)))) 0 0 noA := by
  refine ofB (cc := cX5_count) (maxL := 2) (ret := (some .int)) (by decide) rfl (Nat.le_of_ble_eq_true rfl) ?_
  intro p e s m below meth c hx hb hr hlocks hml hown hin hts hE hI ls hl
  replace hown : s.vm.findClass RX5 = some m.cls := hown
  have hl : lv_has ls 2 [(0, .ref fe), (1, .int (nI x))] := hl
  have hP : va_P G.1 vwCl ([(fe, .inr (5, [.ref (an 0), .ref ta, .ref sa, .ref ha, .ref oa, .int hsn]))] ++ (cST G an f v0 v1 w ++ (cHI G ha sv old sz ad ++ ([])))) s.heap := hI
  have w_0 : ∀ w ∈ u_ws RX5 TX5 6, w ∈ wsX5_count := by decide +kernel
  have w_1 := hts (.fieldLink RX5 10 "CableFerry" "now" "LCableFerry$State;") (by decide +kernel)
  have w_2 : ∀ w ∈ u_ws RX3 TX3 14, w ∈ wsX5_count := by decide +kernel
  have w_3 := hts (.fieldLink RX5 127 "CableFerry$State" "hours" "I") (by decide +kernel)
  have w_4 := hts (.fieldLink RX5 225 "CableFerry$State" "ferryBank" "I") (by decide +kernel)
  have w_5 := hts (.fieldLink RX5 141 "CableFerry$State" "wire" "LCableFerry$Wire;") (by decide +kernel)
  have w_6 : ∀ w ∈ u_ws RX4 TX4 4, w ∈ wsX5_count := by decide +kernel
  have w_7 := hts (.fieldLink RX5 237 "CableFerry$Wire" "slack" "I") (by decide +kernel)
  have w_8 := hts (.fieldLink RX5 240 "CableFerry$Wire" "stretch" "I") (by decide +kernel)
  have w_9 := hts (.fieldLink RX5 145 "CableFerry$Wire" "drum" "I") (by decide +kernel)
  have w_10 := hts (.fieldLink RX5 243 "CableFerry$State" "crossings" "I") (by decide +kernel)
  have w_11 := hts (.fieldLink RX5 246 "CableFerry$State" "arrived" "I") (by decide +kernel)
  have w_12 := hts (.fieldLink RX5 249 "CableFerry$State" "carried" "I") (by decide +kernel)
  have w_13 := hts (.fieldLink RX5 252 "CableFerry$State" "turnedBack" "I") (by decide +kernel)
  have w_14 := hts (.fieldLink RX5 255 "CableFerry$State" "hoursWaited" "I") (by decide +kernel)
  have w_15 := hts (.fieldLink RX5 25 "CableFerry" "history" "LCableFerry$History;") (by decide +kernel)
  skip
  rcases (show x = 0 ∨ x = 1 ∨ x = 2 ∨ x = 3 ∨ x = 4 ∨ x = 5 ∨ x = 6 ∨ x = 7 ∨ x = 8 ∨ x = 9 ∨ x = 10 ∨ x = 11 ∨ x = 12 ∨ x = 13 by omega) with rfl | rfl | rfl | rfl | rfl | rfl | rfl | rfl | rfl | rfl | rfl | rfl | rfl | rfl
  · skip
    have hl : lv_has ls 2 [(0, .ref fe), (1, .int (nI 0))] := hl
    refine lv_iload_n hx hb dX5_count_0 rfl (lv_at hl 1 rfl) ?_
    refine lv_tableIn (off := 71) (tgt := 72) hx hb dX5_count_1 (by decide +kernel) (by decide +kernel) (by decide +kernel) (by decide) ?_
    refine lv_aload_n hx hb dX5_count_72 rfl (lv_at hl 0 rfl) ?_
    refine va_get (D := G.1) (ci := 5) (v := .ref (an 0)) (C := RX5) (T := TX5) (N := 6) hx hb hts w_0 hown hE.1 hP 0 rfl rfl 0 (by decide) w_1 (fun _ h9 => h9) rfl dX5_count_73 ?_
    replace hP : va_P G.1 vwCl (cST G an f v0 v1 w ++ ([(fe, .inr (5, [.ref (an 0), .ref ta, .ref sa, .ref ha, .ref oa, .int hsn]))] ++ (cHI G ha sv old sz ad ++ ([])))) s.heap := P_perm br1 hP
    refine va_get (D := G.1) (ci := 3) (v := .int (f 50)) (C := RX3) (T := TX3) (N := 14) hx hb hts w_2 hown hE.1 hP 0 rfl rfl 7 (by decide) w_3 (fun _ h9 => h9) rfl dX5_count_76 ?_
    refine tS (st' := [.int (fCnt f sz 0)]) (congrArg (fun z => [Value.int z]) (rfl)) ?_
    exact W.iret hx hb hr (fun t ht hW => ⟨rfl, ht⟩) (fun _ h => nomatch h) dX5_count_79
  · skip
    have hl : lv_has ls 2 [(0, .ref fe), (1, .int (nI 1))] := hl
    refine lv_iload_n hx hb dX5_count_0 rfl (lv_at hl 1 rfl) ?_
    refine lv_tableIn (off := 79) (tgt := 80) hx hb dX5_count_1 (by decide +kernel) (by decide +kernel) (by decide +kernel) (by decide) ?_
    refine lv_aload_n hx hb dX5_count_80 rfl (lv_at hl 0 rfl) ?_
    refine va_get (D := G.1) (ci := 5) (v := .ref (an 0)) (C := RX5) (T := TX5) (N := 6) hx hb hts w_0 hown hE.1 hP 0 rfl rfl 0 (by decide) w_1 (fun _ h9 => h9) rfl dX5_count_81 ?_
    replace hP : va_P G.1 vwCl (cST G an f v0 v1 w ++ ([(fe, .inr (5, [.ref (an 0), .ref ta, .ref sa, .ref ha, .ref oa, .int hsn]))] ++ (cHI G ha sv old sz ad ++ ([])))) s.heap := P_perm br1 hP
    refine va_get (D := G.1) (ci := 3) (v := .int (f 51)) (C := RX3) (T := TX3) (N := 14) hx hb hts w_2 hown hE.1 hP 0 rfl rfl 8 (by decide) w_4 (fun _ h9 => h9) rfl dX5_count_84 ?_
    refine tS (st' := [.int (fCnt f sz 1)]) (congrArg (fun z => [Value.int z]) (rfl)) ?_
    exact W.iret hx hb hr (fun t ht hW => ⟨rfl, ht⟩) (fun _ h => nomatch h) dX5_count_87
  · skip
    have hl : lv_has ls 2 [(0, .ref fe), (1, .int (nI 2))] := hl
    refine lv_iload_n hx hb dX5_count_0 rfl (lv_at hl 1 rfl) ?_
    refine lv_tableIn (off := 87) (tgt := 88) hx hb dX5_count_1 (by decide +kernel) (by decide +kernel) (by decide +kernel) (by decide) ?_
    refine lv_aload_n hx hb dX5_count_88 rfl (lv_at hl 0 rfl) ?_
    refine va_get (D := G.1) (ci := 5) (v := .ref (an 0)) (C := RX5) (T := TX5) (N := 6) hx hb hts w_0 hown hE.1 hP 0 rfl rfl 0 (by decide) w_1 (fun _ h9 => h9) rfl dX5_count_89 ?_
    replace hP : va_P G.1 vwCl (cST G an f v0 v1 w ++ ([(fe, .inr (5, [.ref (an 0), .ref ta, .ref sa, .ref ha, .ref oa, .int hsn]))] ++ (cHI G ha sv old sz ad ++ ([])))) s.heap := P_perm br1 hP
    refine pcall (st1 := [.int (nI (nn f 79 + nn f 88))]) (va_runV (As := []) (rest := []) ⟨hx, hb, hml, hown, hts⟩ (c_X3_vehiclesOnDeck l G (an 0) (an 1) (an 2) (an 3) (an 6) (an 9) (an 10) (an 11) (an 12) (an 13) (an 14) (an 15) (an 16) f) (cwV 0 hts gX5_count_X3_vehiclesOnDeck rfl rfl rfl (by decide +kernel) ⟨Nat.le_of_ble_eq_true rfl, Nat.le_of_ble_eq_true rfl⟩) (PC.preV hE (va_recv hE.1 hP (ci := 3) (q0 := 0) rfl rfl) (hP.sub [0, 1, 2, 9, 12, 15, 16] rfl)) rfl rfl hl.1 rfl (lv_room (Nat.le_of_ble_eq_true rfl)) dX5_count_92 ⟨Nat.zero_le _, Nat.zero_le _⟩) rfl ?_
    refine tS (st' := [.int (fCnt f sz 2)]) (congrArg (fun z => [Value.int z]) (by have a9 : f 79 = nI (nn f 79) := (hs.1 0 (by omega)).1; have b9 : f 88 = nI (nn f 88) := (hs.1 1 (by omega)).1; show nI (nn f 79 + nn f 88) = f 79 + f 88; rw [a9, b9, nI_add])) ?_
    exact W.iret hx hb hr (fun t ht hW => ⟨rfl, ht⟩) (fun _ h => nomatch h) dX5_count_95
  · skip
    have hl : lv_has ls 2 [(0, .ref fe), (1, .int (nI 3))] := hl
    refine lv_iload_n hx hb dX5_count_0 rfl (lv_at hl 1 rfl) ?_
    refine lv_tableIn (off := 95) (tgt := 96) hx hb dX5_count_1 (by decide +kernel) (by decide +kernel) (by decide +kernel) (by decide) ?_
    refine lv_aload_n hx hb dX5_count_96 rfl (lv_at hl 0 rfl) ?_
    refine va_get (D := G.1) (ci := 5) (v := .ref (an 0)) (C := RX5) (T := TX5) (N := 6) hx hb hts w_0 hown hE.1 hP 0 rfl rfl 0 (by decide) w_1 (fun _ h9 => h9) rfl dX5_count_97 ?_
    replace hP : va_P G.1 vwCl (cST G an f v0 v1 w ++ ([(fe, .inr (5, [.ref (an 0), .ref ta, .ref sa, .ref ha, .ref oa, .int hsn]))] ++ (cHI G ha sv old sz ad ++ ([])))) s.heap := P_perm br1 hP
    refine pcall (st1 := [.int (fLw f 0 + fLw f 1)]) (va_runV (As := []) (rest := []) ⟨hx, hb, hml, hown, hts⟩ (c_X3_weightOnDeck l G (an 0) (an 1) (an 2) (an 3) (an 6) (an 9) (an 10) (an 11) (an 12) (an 13) (an 14) (an 15) (an 16) f) (cwV 0 hts gX5_count_X3_weightOnDeck rfl rfl rfl (by decide +kernel) ⟨Nat.le_of_ble_eq_true rfl, Nat.le_of_ble_eq_true rfl⟩) (PC.preV hE (va_recv hE.1 hP (ci := 3) (q0 := 0) rfl rfl) (hP.sub [0, 1, 2, 9, 12, 15, 16] rfl)) rfl rfl hl.1 rfl (lv_room (Nat.le_of_ble_eq_true rfl)) dX5_count_100 ⟨Nat.zero_le _, Nat.zero_le _⟩) rfl ?_
    refine tS (st' := [.int (fCnt f sz 3)]) (congrArg (fun z => [Value.int z]) (rfl)) ?_
    exact W.iret hx hb hr (fun t ht hW => ⟨rfl, ht⟩) (fun _ h => nomatch h) dX5_count_103
  · skip
    have hl : lv_has ls 2 [(0, .ref fe), (1, .int (nI 4))] := hl
    refine lv_iload_n hx hb dX5_count_0 rfl (lv_at hl 1 rfl) ?_
    refine lv_tableIn (off := 103) (tgt := 104) hx hb dX5_count_1 (by decide +kernel) (by decide +kernel) (by decide +kernel) (by decide) ?_
    refine lv_aload_n hx hb dX5_count_104 rfl (lv_at hl 0 rfl) ?_
    refine va_get (D := G.1) (ci := 5) (v := .ref (an 0)) (C := RX5) (T := TX5) (N := 6) hx hb hts w_0 hown hE.1 hP 0 rfl rfl 0 (by decide) w_1 (fun _ h9 => h9) rfl dX5_count_105 ?_
    replace hP : va_P G.1 vwCl (cST G an f v0 v1 w ++ ([(fe, .inr (5, [.ref (an 0), .ref ta, .ref sa, .ref ha, .ref oa, .int hsn]))] ++ (cHI G ha sv old sz ad ++ ([])))) s.heap := P_perm br1 hP
    refine pcall (st1 := [.int (fLst f)]) (va_runV (As := []) (rest := []) ⟨hx, hb, hml, hown, hts⟩ (c_X3_list l G (an 0) (an 1) (an 2) (an 3) (an 6) (an 9) (an 10) (an 11) (an 12) (an 13) (an 14) (an 15) (an 16) f) (cwV 0 hts gX5_count_X3_list rfl rfl rfl (by decide +kernel) ⟨Nat.le_of_ble_eq_true rfl, Nat.le_of_ble_eq_true rfl⟩) (PC.preV hE (va_recv hE.1 hP (ci := 3) (q0 := 0) rfl rfl) (hP.sub [0, 1, 2, 9, 12, 15, 16] rfl)) rfl rfl hl.1 rfl (lv_room (Nat.le_of_ble_eq_true rfl)) dX5_count_108 ⟨Nat.zero_le _, Nat.zero_le _⟩) rfl ?_
    refine tS (st' := [.int (fCnt f sz 4)]) (congrArg (fun z => [Value.int z]) (rfl)) ?_
    exact W.iret hx hb hr (fun t ht hW => ⟨rfl, ht⟩) (fun _ h => nomatch h) dX5_count_111
  · skip
    have hl : lv_has ls 2 [(0, .ref fe), (1, .int (nI 5))] := hl
    refine lv_iload_n hx hb dX5_count_0 rfl (lv_at hl 1 rfl) ?_
    refine lv_tableIn (off := 111) (tgt := 112) hx hb dX5_count_1 (by decide +kernel) (by decide +kernel) (by decide +kernel) (by decide) ?_
    refine lv_aload_n hx hb dX5_count_112 rfl (lv_at hl 0 rfl) ?_
    refine va_get (D := G.1) (ci := 5) (v := .ref (an 0)) (C := RX5) (T := TX5) (N := 6) hx hb hts w_0 hown hE.1 hP 0 rfl rfl 0 (by decide) w_1 (fun _ h9 => h9) rfl dX5_count_113 ?_
    replace hP : va_P G.1 vwCl (cST G an f v0 v1 w ++ ([(fe, .inr (5, [.ref (an 0), .ref ta, .ref sa, .ref ha, .ref oa, .int hsn]))] ++ (cHI G ha sv old sz ad ++ ([])))) s.heap := P_perm br1 hP
    refine va_get (D := G.1) (ci := 3) (v := .ref (an 15)) (C := RX3) (T := TX3) (N := 14) hx hb hts w_2 hown hE.1 hP 0 rfl rfl 6 (by decide) w_5 (fun _ h9 => h9) rfl dX5_count_116 ?_
    refine va_get (D := G.1) (ci := 4) (v := .int (f 47)) (C := RX4) (T := TX4) (N := 4) hx hb hts w_6 hown hE.1 hP 15 rfl rfl 1 (by decide) w_7 (fun _ h9 => h9) rfl dX5_count_119 ?_
    refine tS (st' := [.int (fCnt f sz 5)]) (congrArg (fun z => [Value.int z]) (rfl)) ?_
    exact W.iret hx hb hr (fun t ht hW => ⟨rfl, ht⟩) (fun _ h => nomatch h) dX5_count_122
  · skip
    have hl : lv_has ls 2 [(0, .ref fe), (1, .int (nI 6))] := hl
    refine lv_iload_n hx hb dX5_count_0 rfl (lv_at hl 1 rfl) ?_
    refine lv_tableIn (off := 122) (tgt := 123) hx hb dX5_count_1 (by decide +kernel) (by decide +kernel) (by decide +kernel) (by decide) ?_
    refine lv_aload_n hx hb dX5_count_123 rfl (lv_at hl 0 rfl) ?_
    refine va_get (D := G.1) (ci := 5) (v := .ref (an 0)) (C := RX5) (T := TX5) (N := 6) hx hb hts w_0 hown hE.1 hP 0 rfl rfl 0 (by decide) w_1 (fun _ h9 => h9) rfl dX5_count_124 ?_
    replace hP : va_P G.1 vwCl (cST G an f v0 v1 w ++ ([(fe, .inr (5, [.ref (an 0), .ref ta, .ref sa, .ref ha, .ref oa, .int hsn]))] ++ (cHI G ha sv old sz ad ++ ([])))) s.heap := P_perm br1 hP
    refine va_get (D := G.1) (ci := 3) (v := .ref (an 15)) (C := RX3) (T := TX3) (N := 14) hx hb hts w_2 hown hE.1 hP 0 rfl rfl 6 (by decide) w_5 (fun _ h9 => h9) rfl dX5_count_127 ?_
    refine va_get (D := G.1) (ci := 4) (v := .int (f 48)) (C := RX4) (T := TX4) (N := 4) hx hb hts w_6 hown hE.1 hP 15 rfl rfl 2 (by decide) w_8 (fun _ h9 => h9) rfl dX5_count_130 ?_
    refine tS (st' := [.int (fCnt f sz 6)]) (congrArg (fun z => [Value.int z]) (rfl)) ?_
    exact W.iret hx hb hr (fun t ht hW => ⟨rfl, ht⟩) (fun _ h => nomatch h) dX5_count_133
  · skip
    have hl : lv_has ls 2 [(0, .ref fe), (1, .int (nI 7))] := hl
    refine lv_iload_n hx hb dX5_count_0 rfl (lv_at hl 1 rfl) ?_
    refine lv_tableIn (off := 133) (tgt := 134) hx hb dX5_count_1 (by decide +kernel) (by decide +kernel) (by decide +kernel) (by decide) ?_
    refine lv_aload_n hx hb dX5_count_134 rfl (lv_at hl 0 rfl) ?_
    refine va_get (D := G.1) (ci := 5) (v := .ref (an 0)) (C := RX5) (T := TX5) (N := 6) hx hb hts w_0 hown hE.1 hP 0 rfl rfl 0 (by decide) w_1 (fun _ h9 => h9) rfl dX5_count_135 ?_
    replace hP : va_P G.1 vwCl (cST G an f v0 v1 w ++ ([(fe, .inr (5, [.ref (an 0), .ref ta, .ref sa, .ref ha, .ref oa, .int hsn]))] ++ (cHI G ha sv old sz ad ++ ([])))) s.heap := P_perm br1 hP
    refine va_get (D := G.1) (ci := 3) (v := .ref (an 15)) (C := RX3) (T := TX3) (N := 14) hx hb hts w_2 hown hE.1 hP 0 rfl rfl 6 (by decide) w_5 (fun _ h9 => h9) rfl dX5_count_138 ?_
    refine va_get (D := G.1) (ci := 4) (v := .int (f 49)) (C := RX4) (T := TX4) (N := 4) hx hb hts w_6 hown hE.1 hP 15 rfl rfl 3 (by decide) w_9 (fun _ h9 => h9) rfl dX5_count_141 ?_
    refine tS (st' := [.int (fCnt f sz 7)]) (congrArg (fun z => [Value.int z]) (rfl)) ?_
    exact W.iret hx hb hr (fun t ht hW => ⟨rfl, ht⟩) (fun _ h => nomatch h) dX5_count_144
  · skip
    have hl : lv_has ls 2 [(0, .ref fe), (1, .int (nI 8))] := hl
    refine lv_iload_n hx hb dX5_count_0 rfl (lv_at hl 1 rfl) ?_
    refine lv_tableIn (off := 144) (tgt := 145) hx hb dX5_count_1 (by decide +kernel) (by decide +kernel) (by decide +kernel) (by decide) ?_
    refine lv_aload_n hx hb dX5_count_145 rfl (lv_at hl 0 rfl) ?_
    refine va_get (D := G.1) (ci := 5) (v := .ref (an 0)) (C := RX5) (T := TX5) (N := 6) hx hb hts w_0 hown hE.1 hP 0 rfl rfl 0 (by decide) w_1 (fun _ h9 => h9) rfl dX5_count_146 ?_
    replace hP : va_P G.1 vwCl (cST G an f v0 v1 w ++ ([(fe, .inr (5, [.ref (an 0), .ref ta, .ref sa, .ref ha, .ref oa, .int hsn]))] ++ (cHI G ha sv old sz ad ++ ([])))) s.heap := P_perm br1 hP
    refine va_get (D := G.1) (ci := 3) (v := .int (f 52)) (C := RX3) (T := TX3) (N := 14) hx hb hts w_2 hown hE.1 hP 0 rfl rfl 9 (by decide) w_10 (fun _ h9 => h9) rfl dX5_count_149 ?_
    refine tS (st' := [.int (fCnt f sz 8)]) (congrArg (fun z => [Value.int z]) (rfl)) ?_
    exact W.iret hx hb hr (fun t ht hW => ⟨rfl, ht⟩) (fun _ h => nomatch h) dX5_count_152
  · skip
    have hl : lv_has ls 2 [(0, .ref fe), (1, .int (nI 9))] := hl
    refine lv_iload_n hx hb dX5_count_0 rfl (lv_at hl 1 rfl) ?_
    refine lv_tableIn (off := 152) (tgt := 153) hx hb dX5_count_1 (by decide +kernel) (by decide +kernel) (by decide +kernel) (by decide) ?_
    refine lv_aload_n hx hb dX5_count_153 rfl (lv_at hl 0 rfl) ?_
    refine va_get (D := G.1) (ci := 5) (v := .ref (an 0)) (C := RX5) (T := TX5) (N := 6) hx hb hts w_0 hown hE.1 hP 0 rfl rfl 0 (by decide) w_1 (fun _ h9 => h9) rfl dX5_count_154 ?_
    replace hP : va_P G.1 vwCl (cST G an f v0 v1 w ++ ([(fe, .inr (5, [.ref (an 0), .ref ta, .ref sa, .ref ha, .ref oa, .int hsn]))] ++ (cHI G ha sv old sz ad ++ ([])))) s.heap := P_perm br1 hP
    refine va_get (D := G.1) (ci := 3) (v := .int (f 53)) (C := RX3) (T := TX3) (N := 14) hx hb hts w_2 hown hE.1 hP 0 rfl rfl 10 (by decide) w_11 (fun _ h9 => h9) rfl dX5_count_157 ?_
    refine tS (st' := [.int (fCnt f sz 9)]) (congrArg (fun z => [Value.int z]) (rfl)) ?_
    exact W.iret hx hb hr (fun t ht hW => ⟨rfl, ht⟩) (fun _ h => nomatch h) dX5_count_160
  · skip
    have hl : lv_has ls 2 [(0, .ref fe), (1, .int (nI 10))] := hl
    refine lv_iload_n hx hb dX5_count_0 rfl (lv_at hl 1 rfl) ?_
    refine lv_tableIn (off := 160) (tgt := 161) hx hb dX5_count_1 (by decide +kernel) (by decide +kernel) (by decide +kernel) (by decide) ?_
    refine lv_aload_n hx hb dX5_count_161 rfl (lv_at hl 0 rfl) ?_
    refine va_get (D := G.1) (ci := 5) (v := .ref (an 0)) (C := RX5) (T := TX5) (N := 6) hx hb hts w_0 hown hE.1 hP 0 rfl rfl 0 (by decide) w_1 (fun _ h9 => h9) rfl dX5_count_162 ?_
    replace hP : va_P G.1 vwCl (cST G an f v0 v1 w ++ ([(fe, .inr (5, [.ref (an 0), .ref ta, .ref sa, .ref ha, .ref oa, .int hsn]))] ++ (cHI G ha sv old sz ad ++ ([])))) s.heap := P_perm br1 hP
    refine va_get (D := G.1) (ci := 3) (v := .int (f 54)) (C := RX3) (T := TX3) (N := 14) hx hb hts w_2 hown hE.1 hP 0 rfl rfl 11 (by decide) w_12 (fun _ h9 => h9) rfl dX5_count_165 ?_
    refine tS (st' := [.int (fCnt f sz 10)]) (congrArg (fun z => [Value.int z]) (rfl)) ?_
    exact W.iret hx hb hr (fun t ht hW => ⟨rfl, ht⟩) (fun _ h => nomatch h) dX5_count_168
  · skip
    have hl : lv_has ls 2 [(0, .ref fe), (1, .int (nI 11))] := hl
    refine lv_iload_n hx hb dX5_count_0 rfl (lv_at hl 1 rfl) ?_
    refine lv_tableIn (off := 168) (tgt := 169) hx hb dX5_count_1 (by decide +kernel) (by decide +kernel) (by decide +kernel) (by decide) ?_
    refine lv_aload_n hx hb dX5_count_169 rfl (lv_at hl 0 rfl) ?_
    refine va_get (D := G.1) (ci := 5) (v := .ref (an 0)) (C := RX5) (T := TX5) (N := 6) hx hb hts w_0 hown hE.1 hP 0 rfl rfl 0 (by decide) w_1 (fun _ h9 => h9) rfl dX5_count_170 ?_
    replace hP : va_P G.1 vwCl (cST G an f v0 v1 w ++ ([(fe, .inr (5, [.ref (an 0), .ref ta, .ref sa, .ref ha, .ref oa, .int hsn]))] ++ (cHI G ha sv old sz ad ++ ([])))) s.heap := P_perm br1 hP
    refine va_get (D := G.1) (ci := 3) (v := .int (f 55)) (C := RX3) (T := TX3) (N := 14) hx hb hts w_2 hown hE.1 hP 0 rfl rfl 12 (by decide) w_13 (fun _ h9 => h9) rfl dX5_count_173 ?_
    refine tS (st' := [.int (fCnt f sz 11)]) (congrArg (fun z => [Value.int z]) (rfl)) ?_
    exact W.iret hx hb hr (fun t ht hW => ⟨rfl, ht⟩) (fun _ h => nomatch h) dX5_count_176
  · skip
    have hl : lv_has ls 2 [(0, .ref fe), (1, .int (nI 12))] := hl
    refine lv_iload_n hx hb dX5_count_0 rfl (lv_at hl 1 rfl) ?_
    refine lv_tableIn (off := 176) (tgt := 177) hx hb dX5_count_1 (by decide +kernel) (by decide +kernel) (by decide +kernel) (by decide) ?_
    refine lv_aload_n hx hb dX5_count_177 rfl (lv_at hl 0 rfl) ?_
    refine va_get (D := G.1) (ci := 5) (v := .ref (an 0)) (C := RX5) (T := TX5) (N := 6) hx hb hts w_0 hown hE.1 hP 0 rfl rfl 0 (by decide) w_1 (fun _ h9 => h9) rfl dX5_count_178 ?_
    replace hP : va_P G.1 vwCl (cST G an f v0 v1 w ++ ([(fe, .inr (5, [.ref (an 0), .ref ta, .ref sa, .ref ha, .ref oa, .int hsn]))] ++ (cHI G ha sv old sz ad ++ ([])))) s.heap := P_perm br1 hP
    refine va_get (D := G.1) (ci := 3) (v := .int (f 56)) (C := RX3) (T := TX3) (N := 14) hx hb hts w_2 hown hE.1 hP 0 rfl rfl 13 (by decide) w_14 (fun _ h9 => h9) rfl dX5_count_181 ?_
    refine tS (st' := [.int (fCnt f sz 12)]) (congrArg (fun z => [Value.int z]) (rfl)) ?_
    exact W.iret hx hb hr (fun t ht hW => ⟨rfl, ht⟩) (fun _ h => nomatch h) dX5_count_184
  · skip
    have hl : lv_has ls 2 [(0, .ref fe), (1, .int (nI 13))] := hl
    refine lv_iload_n hx hb dX5_count_0 rfl (lv_at hl 1 rfl) ?_
    refine lv_tableIn (off := 184) (tgt := 185) hx hb dX5_count_1 (by decide +kernel) (by decide +kernel) (by decide +kernel) (by decide) ?_
    refine lv_aload_n hx hb dX5_count_185 rfl (lv_at hl 0 rfl) ?_
    refine va_get (D := G.1) (ci := 5) (v := .ref ha) (C := RX5) (T := TX5) (N := 6) hx hb hts w_0 hown hE.1 hP 0 rfl rfl 3 (by decide) w_15 (fun _ h9 => h9) rfl dX5_count_186 ?_
    replace hP : va_P G.1 vwCl (cHI G ha sv old sz ad ++ ([(fe, .inr (5, [.ref (an 0), .ref ta, .ref sa, .ref ha, .ref oa, .int hsn]))] ++ (cST G an f v0 v1 w ++ ([])))) s.heap := P_perm br2 hP
    refine pcall (st1 := [.int (nI sz)]) (va_runV (As := []) (rest := []) ⟨hx, hb, hml, hown, hts⟩ (c_X0_size l G ha sv old sz ad) (cwV 0 hts gX5_count_X0_size rfl rfl rfl (by decide +kernel) ⟨Nat.le_of_ble_eq_true rfl, Nat.le_of_ble_eq_true rfl⟩) (PC.preV hE (va_recv hE.1 hP (ci := 0) (q0 := 0) rfl rfl) (hP.sub [0, 1] rfl)) rfl rfl hl.1 rfl (lv_room (Nat.le_of_ble_eq_true rfl)) dX5_count_189 ⟨Nat.zero_le _, Nat.zero_le _⟩) rfl ?_
    refine tS (st' := [.int (fCnt f sz 13)]) (congrArg (fun z => [Value.int z]) (rfl)) ?_
    exact W.iret hx hb hr (fun t ht hW => ⟨rfl, ht⟩) (fun _ h => nomatch h) dX5_count_192
set_option maxHeartbeats 4000000 in
set_option maxRecDepth 100000 in
theorem c_X5_count_e1 (l : Launch) (hlt : l.stackTraces = false) (G : eG) (fe : Nat) (p0 : Int32) (hNo : ¬ (nI 0 ≤ p0 ∧ p0 ≤ nI 13)) : vx_Met l yX5_count wsX5_count ({ frames := 6, cells := 1, slots := 6, locals := 82 }) (PJ [.ref fe, .int p0] G (fun H => va_P G.1 vwCl [] H)) QF (XE "java/lang/IllegalArgumentException") 1 6 noA := by
  refine ofBX (cc := cX5_count) (maxL := 2) (ret := (some .int)) (by decide) rfl (Nat.le_of_ble_eq_true rfl) ?_
  intro p e s m below meth c hx hb hr hlocks hml hown hin hts hE hJ hI ht ls hl
  replace hown : s.vm.findClass RX5 = some m.cls := hown
  have hl : lv_has ls 2 [(0, .ref fe), (1, .int p0)] := hl
  have hP : va_P G.1 vwCl [] s.heap := hI
  skip
  refine lv_iload_n hx hb dX5_count_0 rfl (lv_at hl 1 rfl) ?_
  refine lv_tableOut (tgt := 193) hx hb dX5_count_1 (tout (hi := 13) (by decide) hNo) (by decide) ?_
  exact xthrowW (text := "what is not 0 to 13") hx hb hlt hown rfl (by decide +kernel) (by decide +kernel) hts (by decide +kernel) (by decide +kernel) (fun _ h => List.mem_cons_of_mem _ (List.mem_append_right _ h)) (by decide +kernel) xg_IAE.1 xg_IAE.2 hJ (hl.1.trans hml.symm) dX5_count_193 dX5_count_196 dX5_count_197 dX5_count_200 dX5_count_203 ht (Nat.le_of_ble_eq_true rfl) (Nat.le_of_ble_eq_true rfl) (Nat.le_of_ble_eq_true rfl) (Nat.le_of_ble_eq_true rfl) hlocks
set_option maxHeartbeats 4000000 in
set_option maxRecDepth 100000 in
theorem c_X5_weakest_ok (l : Launch) (G : eG) (fe ta sa ha oa : Nat) (hsn : Int32) (an : Nat → Nat) (f : Nat → Int32) (v0 v1 : Int32) (w : Nat → Nat → Int32) (hs : Shp f) : Met l yX5_weakest wsX5_weakest ({ frames := 4, cells := 0, slots := 0, locals := 89 }) (PC [.ref fe] G (fun H => va_P G.1 vwCl ([(fe, .inr (5, [.ref (an 0), .ref ta, .ref sa, .ref ha, .ref oa, .int hsn]))] ++ (cST G an f v0 v1 w ++ ([]))) H)) (PQ (some (.int (nI (wkN f 20))))) 0 0 noA := by
  refine ofB (cc := cX5_weakest) (maxL := 5) (ret := (some .int)) (by decide) rfl (Nat.le_of_ble_eq_true rfl) ?_
  intro p e s m below meth c hx hb hr hlocks hml hown hin hts hE hI ls hl
  replace hown : s.vm.findClass RX5 = some m.cls := hown
  have hl : lv_has ls 5 [(0, .ref fe)] := hl
  have hP : va_P G.1 vwCl ([(fe, .inr (5, [.ref (an 0), .ref ta, .ref sa, .ref ha, .ref oa, .int hsn]))] ++ (cST G an f v0 v1 w ++ ([]))) s.heap := hI
  have w_0 : ∀ w ∈ u_ws RX5 TX5 6, w ∈ wsX5_weakest := by decide +kernel
  have w_1 := hts (.fieldLink RX5 10 "CableFerry" "now" "LCableFerry$State;") (by decide +kernel)
  skip
  refine lv_iconst (v := nI 0) hx hb dX5_weakest_0 (by decide +kernel) ?_
  refine lv_istore_n (lv' := [(1, .int (nI 0)), (0, .ref fe)]) hx hb dX5_weakest_1 rfl hl (by decide) rfl (fun ls hl => ?_)
  refine lv_aload_n hx hb dX5_weakest_2 rfl (lv_at hl 1 rfl) ?_
  refine va_get (D := G.1) (ci := 5) (v := .ref (an 0)) (C := RX5) (T := TX5) (N := 6) hx hb hts w_0 hown hE.1 hP 0 rfl rfl 0 (by decide) w_1 (fun _ h9 => h9) rfl dX5_weakest_3 ?_
  refine lv_iconst (v := nI 0) hx hb dX5_weakest_6 (by decide +kernel) ?_
  replace hP : va_P G.1 vwCl (cST G an f v0 v1 w ++ ([(fe, .inr (5, [.ref (an 0), .ref ta, .ref sa, .ref ha, .ref oa, .int hsn]))] ++ ([]))) s.heap := P_perm br1 hP
  refine pcall (st1 := [.int (fRes f 0)]) (va_runV (As := [.int (nI 0)]) (rest := []) ⟨hx, hb, hml, hown, hts⟩ (c_X3_reserveOf l G (an 0) (an 1) (an 2) (an 3) (an 6) (an 9) (an 10) (an 11) (an 12) (an 13) (an 14) (an 15) (an 16) f hs 0 (by omega)) (cwV 1 hts gX5_weakest_X3_reserveOf rfl rfl rfl (by decide +kernel) ⟨Nat.le_of_ble_eq_true rfl, Nat.le_of_ble_eq_true rfl⟩) (PC.preV hE (va_recv hE.1 hP (ci := 3) (q0 := 0) rfl rfl) (hP.sub [0, 1, 2, 9, 12, 15, 16] rfl)) rfl rfl hl.1 rfl (lv_room (Nat.le_of_ble_eq_true rfl)) dX5_weakest_7 ⟨Nat.zero_le _, Nat.zero_le _⟩) rfl ?_
  refine tI (y := fRes f (wkN f 1)) (by rw [wkN_1]) ?_
  refine lv_istore_n (lv' := [(2, .int (fRes f (wkN f 1))), (1, .int (nI 0)), (0, .ref fe)]) hx hb dX5_weakest_10 rfl hl (by decide) rfl (fun ls hl => ?_)
  refine lv_iconst (v := nI 1) hx hb dX5_weakest_11 (by decide +kernel) ?_
  refine lv_istore_n (lv' := [(3, .int (nI 1)), (2, .int (fRes f (wkN f 1))), (1, .int (nI 0)), (0, .ref fe)]) hx hb dX5_weakest_12 rfl hl (by decide) rfl (fun ls hl => ?_)
  refine loopL (σ := Nat × Nat × Int32) (n := 5) (pc1 := 13) (fun (z_ : Nat × Nat × Int32) => match z_ with | (i, b, v) => 20 - i) (fun (z_ : Nat × Nat × Int32) => match z_ with | (i, b, v) => 1 ≤ i ∧ i ≤ 20 ∧ b = wkN f i ∧ v = fRes f (wkN f i)) (fun (z_ : Nat × Nat × Int32) => match z_ with | (i, b, v) => [(3, .int (nI i)), (2, .int v), (1, .int (nI b)), (0, .ref fe)]) (fun (z_ : Nat × Nat × Int32) => match z_ with | (i, b, v) => []) ?_ (1, 0, fRes f (wkN f 1)) _ ⟨by omega, by omega, wkN_1.symm, rfl⟩ (lv_sub hl [0, 1, 2, 3] rfl)
  rintro ⟨i, b, v⟩ ls hI hl ih13
  have hl : lv_has ls 5 [(3, .int (nI i)), (2, .int v), (1, .int (nI b)), (0, .ref fe)] := hl
  replace hI : 1 ≤ i ∧ i ≤ 20 ∧ b = wkN f i ∧ v = fRes f (wkN f i) := hI
  obtain ⟨hi1, hi, hab, hv⟩ := hI
  refine tS (st' := []) rfl ?_
  refine lv_iload_n hx hb dX5_weakest_13 rfl (lv_at hl 0 rfl) ?_
  refine lv_bipush (v := nI 20) hx hb dX5_weakest_14 (by decide +kernel) ?_
  refine icmp_geN (tgt := 46) hx hb (by omega) (by omega) dX5_weakest_16 (by decide) (fun c16 => ?_) (fun c16 => ?_)
  · skip
    refine lv_iload_n hx hb dX5_weakest_46 rfl (lv_at hl 2 rfl) ?_
    refine tS (st' := [.int (nI (wkN f 20))]) (congrArg (fun z => [Value.int z]) (congrArg nI (by rw [hab, show i = 20 by omega]))) ?_
    exact W.iret hx hb hr (fun t ht hW => ⟨rfl, ht⟩) (fun _ h => nomatch h) dX5_weakest_47
  · skip
    refine lv_aload_n hx hb dX5_weakest_19 rfl (lv_at hl 3 rfl) ?_
    replace hP : va_P G.1 vwCl ([(fe, .inr (5, [.ref (an 0), .ref ta, .ref sa, .ref ha, .ref oa, .int hsn]))] ++ (cST G an f v0 v1 w ++ ([]))) s.heap := P_perm br1 hP
    refine va_get (D := G.1) (ci := 5) (v := .ref (an 0)) (C := RX5) (T := TX5) (N := 6) hx hb hts w_0 hown hE.1 hP 0 rfl rfl 0 (by decide) w_1 (fun _ h9 => h9) rfl dX5_weakest_20 ?_
    refine lv_iload_n hx hb dX5_weakest_23 rfl (lv_at hl 0 rfl) ?_
    replace hP : va_P G.1 vwCl (cST G an f v0 v1 w ++ ([(fe, .inr (5, [.ref (an 0), .ref ta, .ref sa, .ref ha, .ref oa, .int hsn]))] ++ ([]))) s.heap := P_perm br1 hP
    refine pcall (st1 := [.int (fRes f i)]) (va_runV (As := [.int (nI i)]) (rest := []) ⟨hx, hb, hml, hown, hts⟩ (c_X3_reserveOf l G (an 0) (an 1) (an 2) (an 3) (an 6) (an 9) (an 10) (an 11) (an 12) (an 13) (an 14) (an 15) (an 16) f hs i (by omega)) (cwV 1 hts gX5_weakest_X3_reserveOf rfl rfl rfl (by decide +kernel) ⟨Nat.le_of_ble_eq_true rfl, Nat.le_of_ble_eq_true rfl⟩) (PC.preV hE (va_recv hE.1 hP (ci := 3) (q0 := 0) rfl rfl) (hP.sub [0, 1, 2, 9, 12, 15, 16] rfl)) rfl rfl hl.1 rfl (lv_room (Nat.le_of_ble_eq_true rfl)) dX5_weakest_24 ⟨Nat.zero_le _, Nat.zero_le _⟩) rfl ?_
    refine lv_istore (lv' := [(4, .int (fRes f i)), (3, .int (nI i)), (2, .int v), (1, .int (nI b)), (0, .ref fe)]) hx hb dX5_weakest_27 hl (by decide) rfl (fun ls hl => ?_)
    refine lv_iload hx hb dX5_weakest_29 (lv_at hl 0 rfl) ?_
    refine lv_iload_n hx hb dX5_weakest_31 rfl (lv_at hl 2 rfl) ?_
    refine lv_icmp_ge (tgt := 40) hx hb dX5_weakest_32 (by decide) (fun c32 => ?_) (fun c32 => ?_)
    · skip
      refine lv_iinc (v := nI (i + 1)) (lv' := [(3, .int (nI (i + 1))), (4, .int (fRes f i)), (2, .int v), (1, .int (nI b)), (0, .ref fe)]) hx hb dX5_weakest_40 hl (k := 1) rfl (nI_inc1 _) (by decide) rfl (fun ls hl => ?_)
      refine lv_goto (tgt := 13) hx hb dX5_weakest_43 (by decide) ?_
      exact ih13 ((i + 1), b, v) _ ⟨by omega, by omega, by rw [wk_t (by rw [← hv]; exact c32)]; exact hab, by rw [wk_t (by rw [← hv]; exact c32)]; exact hv⟩ (lv_sub hl [0, 2, 3, 4] rfl) (by (try dsimp only); omega)
    · skip
      refine lv_iload hx hb dX5_weakest_35 (lv_at hl 0 rfl) ?_
      refine lv_istore_n (lv' := [(2, .int (fRes f i)), (4, .int (fRes f i)), (3, .int (nI i)), (1, .int (nI b)), (0, .ref fe)]) hx hb dX5_weakest_37 rfl hl (by decide) rfl (fun ls hl => ?_)
      refine lv_iload_n hx hb dX5_weakest_38 rfl (lv_at hl 2 rfl) ?_
      refine lv_istore_n (lv' := [(1, .int (nI i)), (2, .int (fRes f i)), (4, .int (fRes f i)), (3, .int (nI i)), (0, .ref fe)]) hx hb dX5_weakest_39 rfl hl (by decide) rfl (fun ls hl => ?_)
      refine lv_iinc (v := nI (i + 1)) (lv' := [(3, .int (nI (i + 1))), (1, .int (nI i)), (2, .int (fRes f i)), (4, .int (fRes f i)), (0, .ref fe)]) hx hb dX5_weakest_40 hl (k := 3) rfl (nI_inc1 _) (by decide) rfl (fun ls hl => ?_)
      refine lv_goto (tgt := 13) hx hb dX5_weakest_43 (by decide) ?_
      exact ih13 ((i + 1), i, (fRes f i)) _ ⟨by omega, by omega, (wk_f (by rw [← hv]; exact c32)).symm, by rw [wk_f (by rw [← hv]; exact c32)]⟩ (lv_sub hl [0, 2, 1, 4] rfl) (by (try dsimp only); omega)
set_option maxHeartbeats 4000000 in
set_option maxRecDepth 100000 in
theorem c_X5_bestHour_ok (l : Launch) (G : eG) (fe ta sa ha oa : Nat) (hsn : Int32) (an : Nat → Nat) (f : Nat → Int32) (v0 v1 : Int32) (w : Nat → Nat → Int32) (hs : Shp f) : Met l yX5_bestHour wsX5_bestHour ({ frames := 4, cells := 0, slots := 0, locals := 93 }) (PC [.ref fe] G (fun H => va_P G.1 vwCl ([(fe, .inr (5, [.ref (an 0), .ref ta, .ref sa, .ref ha, .ref oa, .int hsn]))] ++ (cST G an f v0 v1 w ++ ([]))) H)) (PQ (some (.int (nI (bN f 24))))) 0 0 noA := by
  refine ofB (cc := cX5_bestHour) (maxL := 5) (ret := (some .int)) (by decide) rfl (Nat.le_of_ble_eq_true rfl) ?_
  intro p e s m below meth c hx hb hr hlocks hml hown hin hts hE hI ls hl
  replace hown : s.vm.findClass RX5 = some m.cls := hown
  have hl : lv_has ls 5 [(0, .ref fe)] := hl
  have hP : va_P G.1 vwCl ([(fe, .inr (5, [.ref (an 0), .ref ta, .ref sa, .ref ha, .ref oa, .int hsn]))] ++ (cST G an f v0 v1 w ++ ([]))) s.heap := hI
  have w_0 : ∀ w ∈ u_ws RX5 TX5 6, w ∈ wsX5_bestHour := by decide +kernel
  have w_1 := hts (.fieldLink RX5 10 "CableFerry" "now" "LCableFerry$State;") (by decide +kernel)
  skip
  refine lv_iconst (v := nI 0) hx hb dX5_bestHour_0 (by decide +kernel) ?_
  refine lv_istore_n (lv' := [(1, .int (nI 0)), (0, .ref fe)]) hx hb dX5_bestHour_1 rfl hl (by decide) rfl (fun ls hl => ?_)
  refine lv_aload_n hx hb dX5_bestHour_2 rfl (lv_at hl 1 rfl) ?_
  refine va_get (D := G.1) (ci := 5) (v := .ref (an 0)) (C := RX5) (T := TX5) (N := 6) hx hb hts w_0 hown hE.1 hP 0 rfl rfl 0 (by decide) w_1 (fun _ h9 => h9) rfl dX5_bestHour_3 ?_
  refine lv_iconst (v := nI 0) hx hb dX5_bestHour_6 (by decide +kernel) ?_
  replace hP : va_P G.1 vwCl (cST G an f v0 v1 w ++ ([(fe, .inr (5, [.ref (an 0), .ref ta, .ref sa, .ref ha, .ref oa, .int hsn]))] ++ ([]))) s.heap := P_perm br1 hP
  refine pcall (st1 := [.int (gH f 0)]) (va_runV (As := [.int (nI 0)]) (rest := []) ⟨hx, hb, hml, hown, hts⟩ (c_X3_greatestTension l G (an 0) (an 1) (an 2) (an 3) (an 6) (an 9) (an 10) (an 11) (an 12) (an 13) (an 14) (an 15) (an 16) f hs 0 (by omega)) (cwV 1 hts gX5_bestHour_X3_greatestTension rfl rfl rfl (by decide +kernel) ⟨Nat.le_of_ble_eq_true rfl, Nat.le_of_ble_eq_true rfl⟩) (PC.preV hE (va_recv hE.1 hP (ci := 3) (q0 := 0) rfl rfl) (hP.sub [0, 1, 2, 9, 12, 15, 16] rfl)) rfl rfl hl.1 rfl (lv_room (Nat.le_of_ble_eq_true rfl)) dX5_bestHour_7 ⟨Nat.zero_le _, Nat.zero_le _⟩) rfl ?_
  refine tI (y := bL f 1) (bL_1.symm) ?_
  refine lv_istore_n (lv' := [(2, .int (bL f 1)), (1, .int (nI 0)), (0, .ref fe)]) hx hb dX5_bestHour_10 rfl hl (by decide) rfl (fun ls hl => ?_)
  refine lv_iconst (v := nI 1) hx hb dX5_bestHour_11 (by decide +kernel) ?_
  refine lv_istore_n (lv' := [(3, .int (nI 1)), (2, .int (bL f 1)), (1, .int (nI 0)), (0, .ref fe)]) hx hb dX5_bestHour_12 rfl hl (by decide) rfl (fun ls hl => ?_)
  refine loopL (σ := Nat × Nat × Int32) (n := 5) (pc1 := 13) (fun (z_ : Nat × Nat × Int32) => match z_ with | (i, b, v) => 24 - i) (fun (z_ : Nat × Nat × Int32) => match z_ with | (i, b, v) => 1 ≤ i ∧ i ≤ 24 ∧ b = bN f i ∧ v = bL f i) (fun (z_ : Nat × Nat × Int32) => match z_ with | (i, b, v) => [(3, .int (nI i)), (2, .int v), (1, .int (nI b)), (0, .ref fe)]) (fun (z_ : Nat × Nat × Int32) => match z_ with | (i, b, v) => []) ?_ (1, 0, bL f 1) _ ⟨by omega, by omega, bN_1.symm, rfl⟩ (lv_sub hl [0, 1, 2, 3] rfl)
  rintro ⟨i, b, v⟩ ls hI hl ih13
  have hl : lv_has ls 5 [(3, .int (nI i)), (2, .int v), (1, .int (nI b)), (0, .ref fe)] := hl
  replace hI : 1 ≤ i ∧ i ≤ 24 ∧ b = bN f i ∧ v = bL f i := hI
  obtain ⟨hi1, hi, hab, hv⟩ := hI
  refine tS (st' := []) rfl ?_
  refine lv_iload_n hx hb dX5_bestHour_13 rfl (lv_at hl 0 rfl) ?_
  refine lv_bipush (v := nI 24) hx hb dX5_bestHour_14 (by decide +kernel) ?_
  refine icmp_geN (tgt := 46) hx hb (by omega) (by omega) dX5_bestHour_16 (by decide) (fun c16 => ?_) (fun c16 => ?_)
  · skip
    refine lv_iload_n hx hb dX5_bestHour_46 rfl (lv_at hl 2 rfl) ?_
    refine tS (st' := [.int (nI (bN f 24))]) (congrArg (fun z => [Value.int z]) (congrArg nI (by rw [hab, show i = 24 by omega]))) ?_
    exact W.iret hx hb hr (fun t ht hW => ⟨rfl, ht⟩) (fun _ h => nomatch h) dX5_bestHour_47
  · skip
    refine lv_aload_n hx hb dX5_bestHour_19 rfl (lv_at hl 3 rfl) ?_
    replace hP : va_P G.1 vwCl ([(fe, .inr (5, [.ref (an 0), .ref ta, .ref sa, .ref ha, .ref oa, .int hsn]))] ++ (cST G an f v0 v1 w ++ ([]))) s.heap := P_perm br1 hP
    refine va_get (D := G.1) (ci := 5) (v := .ref (an 0)) (C := RX5) (T := TX5) (N := 6) hx hb hts w_0 hown hE.1 hP 0 rfl rfl 0 (by decide) w_1 (fun _ h9 => h9) rfl dX5_bestHour_20 ?_
    refine lv_iload_n hx hb dX5_bestHour_23 rfl (lv_at hl 0 rfl) ?_
    replace hP : va_P G.1 vwCl (cST G an f v0 v1 w ++ ([(fe, .inr (5, [.ref (an 0), .ref ta, .ref sa, .ref ha, .ref oa, .int hsn]))] ++ ([]))) s.heap := P_perm br1 hP
    refine pcall (st1 := [.int (gH f i)]) (va_runV (As := [.int (nI i)]) (rest := []) ⟨hx, hb, hml, hown, hts⟩ (c_X3_greatestTension l G (an 0) (an 1) (an 2) (an 3) (an 6) (an 9) (an 10) (an 11) (an 12) (an 13) (an 14) (an 15) (an 16) f hs i (by omega)) (cwV 1 hts gX5_bestHour_X3_greatestTension rfl rfl rfl (by decide +kernel) ⟨Nat.le_of_ble_eq_true rfl, Nat.le_of_ble_eq_true rfl⟩) (PC.preV hE (va_recv hE.1 hP (ci := 3) (q0 := 0) rfl rfl) (hP.sub [0, 1, 2, 9, 12, 15, 16] rfl)) rfl rfl hl.1 rfl (lv_room (Nat.le_of_ble_eq_true rfl)) dX5_bestHour_24 ⟨Nat.zero_le _, Nat.zero_le _⟩) rfl ?_
    refine lv_istore (lv' := [(4, .int (gH f i)), (3, .int (nI i)), (2, .int v), (1, .int (nI b)), (0, .ref fe)]) hx hb dX5_bestHour_27 hl (by decide) rfl (fun ls hl => ?_)
    refine lv_iload hx hb dX5_bestHour_29 (lv_at hl 0 rfl) ?_
    refine lv_iload_n hx hb dX5_bestHour_31 rfl (lv_at hl 2 rfl) ?_
    refine lv_icmp_ge (tgt := 40) hx hb dX5_bestHour_32 (by decide) (fun c32 => ?_) (fun c32 => ?_)
    · skip
      refine lv_iinc (v := nI (i + 1)) (lv' := [(3, .int (nI (i + 1))), (4, .int (gH f i)), (2, .int v), (1, .int (nI b)), (0, .ref fe)]) hx hb dX5_bestHour_40 hl (k := 1) rfl (nI_inc1 _) (by decide) rfl (fun ls hl => ?_)
      refine lv_goto (tgt := 13) hx hb dX5_bestHour_43 (by decide) ?_
      exact ih13 ((i + 1), b, v) _ ⟨by omega, by omega, by rw [bN_t (by rw [← hv]; exact c32)]; exact hab, by rw [bL_t (by rw [← hv]; exact c32)]; exact hv⟩ (lv_sub hl [0, 2, 3, 4] rfl) (by (try dsimp only); omega)
    · skip
      refine lv_iload hx hb dX5_bestHour_35 (lv_at hl 0 rfl) ?_
      refine lv_istore_n (lv' := [(2, .int (gH f i)), (4, .int (gH f i)), (3, .int (nI i)), (1, .int (nI b)), (0, .ref fe)]) hx hb dX5_bestHour_37 rfl hl (by decide) rfl (fun ls hl => ?_)
      refine lv_iload_n hx hb dX5_bestHour_38 rfl (lv_at hl 2 rfl) ?_
      refine lv_istore_n (lv' := [(1, .int (nI i)), (2, .int (gH f i)), (4, .int (gH f i)), (3, .int (nI i)), (0, .ref fe)]) hx hb dX5_bestHour_39 rfl hl (by decide) rfl (fun ls hl => ?_)
      refine lv_iinc (v := nI (i + 1)) (lv' := [(3, .int (nI (i + 1))), (1, .int (nI i)), (2, .int (gH f i)), (4, .int (gH f i)), (0, .ref fe)]) hx hb dX5_bestHour_40 hl (k := 3) rfl (nI_inc1 _) (by decide) rfl (fun ls hl => ?_)
      refine lv_goto (tgt := 13) hx hb dX5_bestHour_43 (by decide) ?_
      exact ih13 ((i + 1), i, (gH f i)) _ ⟨by omega, by omega, (bN_f (by rw [← hv]; exact c32)).symm, (bL_f (by rw [← hv]; exact c32)).symm⟩ (lv_sub hl [0, 2, 1, 4] rfl) (by (try dsimp only); omega)
set_option maxHeartbeats 4000000 in
set_option maxRecDepth 100000 in
theorem c_X5_leastList_ok (l : Launch) (G : eG) (fe ta sa ha oa : Nat) (hsn : Int32) (an : Nat → Nat) (f : Nat → Int32) (v0 v1 : Int32) (w : Nat → Nat → Int32) (hcp : CplW f w) (B : Nat) (hB : B < 800000000) (ho : Okf B f) (v : Nat) (hv : v ≤ 8) : Met l yX5_leastList wsX5_leastList ({ frames := 4, cells := 0, slots := 0, locals := 93 }) (PC [.ref fe, .int (nI v)] G (fun H => va_P G.1 vwCl ([(fe, .inr (5, [.ref (an 0), .ref ta, .ref sa, .ref ha, .ref oa, .int hsn]))] ++ (cST G an f v0 v1 w ++ ([]))) H)) (PQ (some (.int (fLs f v)))) 0 0 noA := by
  refine ofB (cc := cX5_leastList) (maxL := 2) (ret := (some .int)) (by decide) rfl (Nat.le_of_ble_eq_true rfl) ?_
  intro p e s m below meth c hx hb hr hlocks hml hown hin hts hE hI ls hl
  replace hown : s.vm.findClass RX5 = some m.cls := hown
  have hl : lv_has ls 2 [(0, .ref fe), (1, .int (nI v))] := hl
  have hP : va_P G.1 vwCl ([(fe, .inr (5, [.ref (an 0), .ref ta, .ref sa, .ref ha, .ref oa, .int hsn]))] ++ (cST G an f v0 v1 w ++ ([]))) s.heap := hI
  have w_0 : ∀ w ∈ u_ws RX5 TX5 6, w ∈ wsX5_leastList := by decide +kernel
  have w_1 := hts (.fieldLink RX5 10 "CableFerry" "now" "LCableFerry$State;") (by decide +kernel)
  skip
  refine lv_iload_n hx hb dX5_leastList_0 rfl (lv_at hl 1 rfl) ?_
  refine lv_iconst (v := nI 0) hx hb dX5_leastList_1 (by decide +kernel) ?_
  refine lv_bipush (v := nI 8) hx hb dX5_leastList_2 (by decide +kernel) ?_
  refine pcall (st1 := [.int (b2 ((nI 0) ≤ (nI v) ∧ (nI v) ≤ (nI 8)))]) (va_runS (As := [.int (nI v), .int (nI 0), .int (nI 8)]) (rest := []) ⟨hx, hb, hml, hown, hts⟩ (c_X5_isWithin l G (nI v) (nI 0) (nI 8)) (va_cwS 3 hts gX5_leastList_X5_isWithin rfl rfl rfl (by decide +kernel) ⟨Nat.le_of_ble_eq_true rfl, Nat.le_of_ble_eq_true rfl⟩) (PC.preS hE P_nil) rfl rfl hl.1 rfl (lv_room (Nat.le_of_ble_eq_true rfl)) dX5_leastList_4 ⟨Nat.zero_le _, Nat.zero_le _⟩) rfl ?_
  refine tI (y := nI 1) (b2_t (inN (by omega) (by omega) (by decide))) ?_
  refine lv_if_ne (tgt := 21) hx hb dX5_leastList_7 (by decide) (fun c7 => ?_) (fun c7 => ?_)
  · skip
    refine lv_aload_n hx hb dX5_leastList_21 rfl (lv_at hl 0 rfl) ?_
    refine va_get (D := G.1) (ci := 5) (v := .ref (an 0)) (C := RX5) (T := TX5) (N := 6) hx hb hts w_0 hown hE.1 hP 0 rfl rfl 0 (by decide) w_1 (fun _ h9 => h9) rfl dX5_leastList_22 ?_
    refine lv_iload_n hx hb dX5_leastList_25 rfl (lv_at hl 1 rfl) ?_
    replace hP : va_P G.1 vwCl (cST G an f v0 v1 w ++ ([(fe, .inr (5, [.ref (an 0), .ref ta, .ref sa, .ref ha, .ref oa, .int hsn]))] ++ ([]))) s.heap := P_perm br1 hP
    refine pcall (st1 := [.int (fLs f v)]) (va_runV (As := [.int (nI v)]) (rest := []) ⟨hx, hb, hml, hown, hts⟩ (c_X3_leastListWith l G (an 0) (an 1) (an 2) (an 3) (an 4) (an 5) (an 6) (an 7) (an 8) (an 9) (an 10) (an 11) (an 12) (an 13) (an 14) (an 15) (an 16) f v0 v1 (w 0) (w 1) (w 2) (w 3) (w 4) (w 5) (w 6) (w 7) hcp _ (by omega) ho v (by omega)) (cwV 1 hts gX5_leastList_X3_leastListWith rfl rfl rfl (by decide +kernel) ⟨Nat.le_of_ble_eq_true rfl, Nat.le_of_ble_eq_true rfl⟩) (PC.preV hE (va_recv hE.1 hP (ci := 3) (q0 := 0) rfl rfl) (hP.sub [0, 1, 2, 3, 4, 5, 6, 7, 8, 9, 10, 11, 12, 13, 14, 15, 16] rfl)) rfl rfl hl.1 rfl (lv_room (Nat.le_of_ble_eq_true rfl)) dX5_leastList_26 ⟨Nat.zero_le _, Nat.zero_le _⟩) rfl ?_
    exact W.iret hx hb hr (fun t ht hW => ⟨rfl, ht⟩) (fun _ h => nomatch h) dX5_leastList_29
  · skip
    exact absurd c7 (by decide)
set_option maxHeartbeats 4000000 in
set_option maxRecDepth 100000 in
theorem c_X5_leastList_e1 (l : Launch) (hlt : l.stackTraces = false) (G : eG) (fe : Nat) (p0 : Int32) (hNo : ¬ (nI 0 ≤ p0 ∧ p0 ≤ nI 8)) : vx_Met l yX5_leastList wsX5_leastList ({ frames := 6, cells := 1, slots := 6, locals := 82 }) (PJ [.ref fe, .int p0] G (fun H => va_P G.1 vwCl [] H)) QF (XE "java/lang/IllegalArgumentException") 1 6 noA := by
  refine ofBX (cc := cX5_leastList) (maxL := 2) (ret := (some .int)) (by decide) rfl (Nat.le_of_ble_eq_true rfl) ?_
  intro p e s m below meth c hx hb hr hlocks hml hown hin hts hE hJ hI ht ls hl
  replace hown : s.vm.findClass RX5 = some m.cls := hown
  have hl : lv_has ls 2 [(0, .ref fe), (1, .int p0)] := hl
  have hP : va_P G.1 vwCl [] s.heap := hI
  skip
  refine lv_iload_n hx hb dX5_leastList_0 rfl (lv_at hl 1 rfl) ?_
  refine lv_iconst (v := nI 0) hx hb dX5_leastList_1 (by decide +kernel) ?_
  refine lv_bipush (v := nI 8) hx hb dX5_leastList_2 (by decide +kernel) ?_
  refine pcall (st1 := [.int (b2 ((nI 0) ≤ p0 ∧ p0 ≤ (nI 8)))]) (va_runS (As := [.int p0, .int (nI 0), .int (nI 8)]) (rest := []) ⟨hx, hb, hml, hown, hts⟩ (c_X5_isWithin l G p0 (nI 0) (nI 8)) (va_cwS 3 hts gX5_leastList_X5_isWithin rfl rfl rfl (by decide +kernel) ⟨Nat.le_of_ble_eq_true rfl, Nat.le_of_ble_eq_true rfl⟩) (PC.preS hE P_nil) rfl rfl hl.1 rfl (lv_room (Nat.le_of_ble_eq_true rfl)) dX5_leastList_4 ⟨Nat.zero_le _, Nat.zero_le _⟩) rfl ?_
  refine tI (y := nI 0) (b2_f hNo) ?_
  refine lv_if_ne (tgt := 21) hx hb dX5_leastList_7 (by decide) (fun c7 => ?_) (fun c7 => ?_)
  · skip
    exact absurd c7 (by decide)
  · skip
    exact xthrowW (text := "vehicles is out of range") hx hb hlt hown rfl (by decide +kernel) (by decide +kernel) hts (by decide +kernel) (by decide +kernel) (fun _ h => List.mem_cons_of_mem _ (List.mem_append_right _ h)) (by decide +kernel) xg_IAE.1 xg_IAE.2 hJ (hl.1.trans hml.symm) dX5_leastList_10 dX5_leastList_13 dX5_leastList_14 dX5_leastList_17 dX5_leastList_20 ht (Nat.le_of_ble_eq_true rfl) (Nat.le_of_ble_eq_true rfl) (Nat.le_of_ble_eq_true rfl) (Nat.le_of_ble_eq_true rfl) hlocks

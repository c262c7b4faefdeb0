set_option maxHeartbeats 4000000 in
set_option maxRecDepth 100000 in
theorem c_X6_ofSection (l : Launch) (G : eG) (ob a1 a2 a3 a4 a5 : Nat) (f th pa sn tx : Nat → Int32) (n len spot : Nat) (kp thr bad lt one two wh : Int32) (hash : Int64) (hs : Shp f) (k w : Nat) (hk : k < 20) (hw : w < 3) : Met l yX6_ofSection wsX6_ofSection ({ frames := 4, cells := 0, slots := 0, locals := 87 }) (PC [.ref ob, .int (nI k), .int (nI w)] G (fun H => va_P G.1 vwCl [(ob, .inr (6, [.ref a1, .ref a2, .ref a3, .int (nI n), .ref a4, .int kp, .ref a5, .int (nI len), .int thr, .int (nI spot), .int bad, .int lt, .int one, .int two, .int wh, .long hash])), (a1, .inl (G.2.1, 97, .inl f)), (a2, .inl (G.2.1, 97, .inl th)), (a3, .inl (G.2.1, 582, .inl pa)), (a4, .inl (G.2.1, 97, .inl sn)), (a5, .inl (G.2.1, 60, .inl tx))] H)) (PQ (some (.int (fOf f k w)))) 0 0 noA := by
  refine ofB (cc := cX6_ofSection) (maxL := 3) (ret := (some .int)) (by decide) rfl (Nat.le_of_ble_eq_true rfl) ?_
  intro p e s m below meth c hx hb hr hlocks hml hown hin hts hE hI ls hl
  replace hown : s.vm.findClass RX6 = some m.cls := hown
  have hl : lv_has ls 3 [(0, .ref ob), (1, .int (nI k)), (2, .int (nI w))] := hl
  have hP : va_P G.1 vwCl [(ob, .inr (6, [.ref a1, .ref a2, .ref a3, .int (nI n), .ref a4, .int kp, .ref a5, .int (nI len), .int thr, .int (nI spot), .int bad, .int lt, .int one, .int two, .int wh, .long hash])), (a1, .inl (G.2.1, 97, .inl f)), (a2, .inl (G.2.1, 97, .inl th)), (a3, .inl (G.2.1, 582, .inl pa)), (a4, .inl (G.2.1, 97, .inl sn)), (a5, .inl (G.2.1, 60, .inl tx))] s.heap := hI
  have w_0 : ∀ w ∈ u_ws RX6 TX6 16, w ∈ wsX6_ofSection := by decide +kernel
  have w_1 := hts (.fieldLink RX6 7 "CableFerryModel" "now" "[I") (by decide +kernel)
  skip
  refine lv_iload_n hx hb dX6_ofSection_0 rfl (lv_at hl 2 rfl) ?_
  refine cutL (σ := Int32) (n := 3) (pc1 := 40) (fun r => r = fOf f k w) (fun r => [(0, .ref ob), (1, .int (nI k)), (2, .int (nI w))]) (fun r => [.int r]) ?_ (fun J40 => ?_)
  · rintro r ls hI hl
    replace hI : r = fOf f k w := hI
    subst hI
    have hl : lv_has ls 3 [(0, .ref ob), (1, .int (nI k)), (2, .int (nI w))] := hl
    refine tS (st' := [.int (fOf f k w)]) rfl ?_
    exact W.iret hx hb hr (fun t ht hW => ⟨rfl, ht⟩) (fun _ h => nomatch h) dX6_ofSection_40
  · skip
    refine if_neN (tgt := 16) hx hb (by omega) dX6_ofSection_1 (by decide) (fun c1 => ?_) (fun c1 => ?_)
    · skip
      refine lv_iload_n hx hb dX6_ofSection_16 rfl (lv_at hl 2 rfl) ?_
      refine lv_iconst (v := nI 1) hx hb dX6_ofSection_17 (by decide +kernel) ?_
      refine icmp_neN (tgt := 32) hx hb (by omega) (by omega) dX6_ofSection_18 (by decide) (fun c18 => ?_) (fun c18 => ?_)
      · skip
        refine lv_aload_n hx hb dX6_ofSection_32 rfl (lv_at hl 0 rfl) ?_
        refine va_get (D := G.1) (ci := 6) (v := .ref a1) (C := RX6) (T := TX6) (N := 16) hx hb hts w_0 hown hE.1 hP 0 rfl rfl 0 (by decide) w_1 (fun _ h9 => h9) rfl dX6_ofSection_33 ?_
        refine lv_iload_n hx hb dX6_ofSection_36 rfl (lv_at hl 1 rfl) ?_
        refine pcall (st1 := [.int (fTen f k)]) (va_runS (As := [.ref a1, .int (nI k)]) (rest := []) ⟨hx, hb, hml, hown, hts⟩ (c_X6_tension l G a1 f hs k (by omega)) (va_cwS 2 hts gX6_ofSection_X6_tension rfl rfl rfl (by decide +kernel) ⟨Nat.le_of_ble_eq_true rfl, Nat.le_of_ble_eq_true rfl⟩) (PC.preS hE (hP.sub [1] rfl)) rfl rfl hl.1 rfl (lv_room (Nat.le_of_ble_eq_true rfl)) dX6_ofSection_37 ⟨Nat.zero_le _, Nat.zero_le _⟩) rfl ?_
        exact J40 (fTen f k) _ (by unfold fOf; (repeat' split) <;> first | rfl | omega) (lv_sub hl [0, 1, 2] rfl)
      · skip
        refine lv_aload_n hx hb dX6_ofSection_21 rfl (lv_at hl 0 rfl) ?_
        refine va_get (D := G.1) (ci := 6) (v := .ref a1) (C := RX6) (T := TX6) (N := 16) hx hb hts w_0 hown hE.1 hP 0 rfl rfl 0 (by decide) w_1 (fun _ h9 => h9) rfl dX6_ofSection_22 ?_
        refine lv_iload_n hx hb dX6_ofSection_25 rfl (lv_at hl 1 rfl) ?_
        refine pcall (st1 := [.int (fStr f k)]) (va_runS (As := [.ref a1, .int (nI k)]) (rest := []) ⟨hx, hb, hml, hown, hts⟩ (c_X6_strength l G a1 f k (by omega)) (va_cwS 2 hts gX6_ofSection_X6_strength rfl rfl rfl (by decide +kernel) ⟨Nat.le_of_ble_eq_true rfl, Nat.le_of_ble_eq_true rfl⟩) (PC.preS hE (hP.sub [1] rfl)) rfl rfl hl.1 rfl (lv_room (Nat.le_of_ble_eq_true rfl)) dX6_ofSection_26 ⟨Nat.zero_le _, Nat.zero_le _⟩) rfl ?_
        refine lv_goto (tgt := 40) hx hb dX6_ofSection_29 (by decide) ?_
        exact J40 (fStr f k) _ (by unfold fOf; (repeat' split) <;> first | rfl | omega) (lv_sub hl [0, 1, 2] rfl)
    · skip
      refine lv_aload_n hx hb dX6_ofSection_4 rfl (lv_at hl 0 rfl) ?_
      refine va_get (D := G.1) (ci := 6) (v := .ref a1) (C := RX6) (T := TX6) (N := 16) hx hb hts w_0 hown hE.1 hP 0 rfl rfl 0 (by decide) w_1 (fun _ h9 => h9) rfl dX6_ofSection_5 ?_
      refine lv_bipush (v := nI 27) hx hb dX6_ofSection_8 (by decide +kernel) ?_
      refine lv_iload_n hx hb dX6_ofSection_10 rfl (lv_at hl 1 rfl) ?_
      refine iaddN hx hb dX6_ofSection_11 ?_
      refine ialdN (k := (27 + k)) hx hb hE.1 hP 1 0 rfl rfl (by omega) (by decide) dX6_ofSection_12 ?_
      refine lv_goto (tgt := 40) hx hb dX6_ofSection_13 (by decide) ?_
      exact J40 (f (27 + k)) _ (by unfold fOf; (repeat' split) <;> first | rfl | omega) (lv_sub hl [0, 1, 2] rfl)
set_option maxHeartbeats 4000000 in
set_option maxRecDepth 100000 in
theorem c_X6_counted (l : Launch) (G : eG) (ob a1 a2 a3 a4 a5 : Nat) (f th pa sn tx : Nat → Int32) (n len spot : Nat) (kp thr bad lt one two wh : Int32) (hash : Int64) (hs : Shp f) (w : Nat) (hw : w < 14) : Met l yX6_counted wsX6_counted ({ frames := 3, cells := 0, slots := 0, locals := 66 }) (PC [.ref ob, .int (nI w)] G (fun H => va_P G.1 vwCl [(ob, .inr (6, [.ref a1, .ref a2, .ref a3, .int (nI n), .ref a4, .int kp, .ref a5, .int (nI len), .int thr, .int (nI spot), .int bad, .int lt, .int one, .int two, .int wh, .long hash])), (a1, .inl (G.2.1, 97, .inl f)), (a2, .inl (G.2.1, 97, .inl th)), (a3, .inl (G.2.1, 582, .inl pa)), (a4, .inl (G.2.1, 97, .inl sn)), (a5, .inl (G.2.1, 60, .inl tx))] H)) (PQ (some (.int (fCnt f n w)))) 0 0 noA := by
  refine ofB (cc := cX6_counted) (maxL := 2) (ret := (some .int)) (by decide) rfl (Nat.le_of_ble_eq_true rfl) ?_
  intro p e s m below meth c hx hb hr hlocks hml hown hin hts hE hI ls hl
  replace hown : s.vm.findClass RX6 = some m.cls := hown
  have hl : lv_has ls 2 [(0, .ref ob), (1, .int (nI w))] := hl
  have hP : va_P G.1 vwCl [(ob, .inr (6, [.ref a1, .ref a2, .ref a3, .int (nI n), .ref a4, .int kp, .ref a5, .int (nI len), .int thr, .int (nI spot), .int bad, .int lt, .int one, .int two, .int wh, .long hash])), (a1, .inl (G.2.1, 97, .inl f)), (a2, .inl (G.2.1, 97, .inl th)), (a3, .inl (G.2.1, 582, .inl pa)), (a4, .inl (G.2.1, 97, .inl sn)), (a5, .inl (G.2.1, 60, .inl tx))] s.heap := hI
  have w_0 : ∀ w ∈ u_ws RX6 TX6 16, w ∈ wsX6_counted := by decide +kernel
  have w_1 := hts (.fieldLink RX6 7 "CableFerryModel" "now" "[I") (by decide +kernel)
  have w_2 := hts (.fieldLink RX6 29 "CableFerryModel" "states" "I") (by decide +kernel)
  skip
  refine lv_iload_n hx hb dX6_counted_0 rfl (lv_at hl 1 rfl) ?_
  have hw14 : w = 0 ∨ w = 1 ∨ w = 2 ∨ w = 3 ∨ w = 4 ∨ w = 5 ∨ w = 6 ∨ w = 7 ∨ w = 8 ∨ w = 9 ∨ w = 10 ∨ w = 11 ∨ w = 12 ∨ w = 13 := by omega
  rcases hw14 with rfl | rfl | rfl | rfl | rfl | rfl | rfl | rfl | rfl | rfl | rfl | rfl | rfl | rfl
  · refine lv_tableIn (off := 71) (tgt := 72) hx hb dX6_counted_1 (by decide +kernel) (by decide +kernel) (by decide +kernel) (by decide) ?_
    have hl : lv_has ls 2 [(0, .ref ob), (1, .int (nI 0))] := hl
    refine lv_aload_n hx hb dX6_counted_72 rfl (lv_at hl 0 rfl) ?_
    refine va_get (D := G.1) (ci := 6) (v := .ref a1) (C := RX6) (T := TX6) (N := 16) hx hb hts w_0 hown hE.1 hP 0 rfl rfl 0 (by decide) w_1 (fun _ h9 => h9) rfl dX6_counted_73 ?_
    refine lv_bipush (v := nI 50) hx hb dX6_counted_76 (by decide +kernel) ?_
    refine lv_iload_n hx hb dX6_counted_78 rfl (lv_at hl 1 rfl) ?_
    refine iaddN hx hb dX6_counted_79 ?_
    refine ialdN (k := (50 + 0)) hx hb hE.1 hP 1 0 rfl rfl (by omega) (by decide) dX6_counted_80 ?_
    refine tS (st' := [.int (fCnt f n 0)]) (congrArg (fun z => [Value.int z]) (rfl)) ?_
    exact W.iret hx hb hr (fun t ht hW => ⟨rfl, ht⟩) (fun _ h => nomatch h) dX6_counted_81
  · refine lv_tableIn (off := 71) (tgt := 72) hx hb dX6_counted_1 (by decide +kernel) (by decide +kernel) (by decide +kernel) (by decide) ?_
    have hl : lv_has ls 2 [(0, .ref ob), (1, .int (nI 1))] := hl
    refine lv_aload_n hx hb dX6_counted_72 rfl (lv_at hl 0 rfl) ?_
    refine va_get (D := G.1) (ci := 6) (v := .ref a1) (C := RX6) (T := TX6) (N := 16) hx hb hts w_0 hown hE.1 hP 0 rfl rfl 0 (by decide) w_1 (fun _ h9 => h9) rfl dX6_counted_73 ?_
    refine lv_bipush (v := nI 50) hx hb dX6_counted_76 (by decide +kernel) ?_
    refine lv_iload_n hx hb dX6_counted_78 rfl (lv_at hl 1 rfl) ?_
    refine iaddN hx hb dX6_counted_79 ?_
    refine ialdN (k := (50 + 1)) hx hb hE.1 hP 1 0 rfl rfl (by omega) (by decide) dX6_counted_80 ?_
    refine tS (st' := [.int (fCnt f n 1)]) (congrArg (fun z => [Value.int z]) (rfl)) ?_
    exact W.iret hx hb hr (fun t ht hW => ⟨rfl, ht⟩) (fun _ h => nomatch h) dX6_counted_81
  · refine lv_tableIn (off := 81) (tgt := 82) hx hb dX6_counted_1 (by decide +kernel) (by decide +kernel) (by decide +kernel) (by decide) ?_
    have hl : lv_has ls 2 [(0, .ref ob), (1, .int (nI 2))] := hl
    refine lv_aload_n hx hb dX6_counted_82 rfl (lv_at hl 0 rfl) ?_
    refine va_get (D := G.1) (ci := 6) (v := .ref a1) (C := RX6) (T := TX6) (N := 16) hx hb hts w_0 hown hE.1 hP 0 rfl rfl 0 (by decide) w_1 (fun _ h9 => h9) rfl dX6_counted_83 ?_
    refine lv_iconst (v := nI 0) hx hb dX6_counted_86 (by decide +kernel) ?_
    refine pcall (st1 := [.int (f (79 + (9 * 0)))]) (va_runS (As := [.ref a1, .int (nI 0)]) (rest := []) ⟨hx, hb, hml, hown, hts⟩ (c_X6_onLane l G a1 f 0 (by omega)) (va_cwS 2 hts gX6_counted_X6_onLane rfl rfl rfl (by decide +kernel) ⟨Nat.le_of_ble_eq_true rfl, Nat.le_of_ble_eq_true rfl⟩) (PC.preS hE (hP.sub [1] rfl)) rfl rfl hl.1 rfl (lv_room (Nat.le_of_ble_eq_true rfl)) dX6_counted_87 ⟨Nat.zero_le _, Nat.zero_le _⟩) rfl ?_
    refine lv_aload_n hx hb dX6_counted_90 rfl (lv_at hl 0 rfl) ?_
    refine va_get (D := G.1) (ci := 6) (v := .ref a1) (C := RX6) (T := TX6) (N := 16) hx hb hts w_0 hown hE.1 hP 0 rfl rfl 0 (by decide) w_1 (fun _ h9 => h9) rfl dX6_counted_91 ?_
    refine lv_iconst (v := nI 1) hx hb dX6_counted_94 (by decide +kernel) ?_
    refine pcall (st1 := [.int (f (79 + (9 * 1))), .int (f (79 + (9 * 0)))]) (va_runS (As := [.ref a1, .int (nI 1)]) (rest := [.int (f (79 + (9 * 0)))]) ⟨hx, hb, hml, hown, hts⟩ (c_X6_onLane l G a1 f 1 (by omega)) (va_cwS 2 hts gX6_counted_X6_onLane rfl rfl rfl (by decide +kernel) ⟨Nat.le_of_ble_eq_true rfl, Nat.le_of_ble_eq_true rfl⟩) (PC.preS hE (hP.sub [1] rfl)) rfl rfl hl.1 rfl (lv_room (Nat.le_of_ble_eq_true rfl)) dX6_counted_95 ⟨Nat.zero_le _, Nat.zero_le _⟩) rfl ?_
    refine lv_iadd hx hb dX6_counted_98 ?_
    refine tS (st' := [.int (fCnt f n 2)]) (congrArg (fun z => [Value.int z]) (rfl)) ?_
    exact W.iret hx hb hr (fun t ht hW => ⟨rfl, ht⟩) (fun _ h => nomatch h) dX6_counted_99
  · refine lv_tableIn (off := 99) (tgt := 100) hx hb dX6_counted_1 (by decide +kernel) (by decide +kernel) (by decide +kernel) (by decide) ?_
    have hl : lv_has ls 2 [(0, .ref ob), (1, .int (nI 3))] := hl
    refine lv_aload_n hx hb dX6_counted_100 rfl (lv_at hl 0 rfl) ?_
    refine va_get (D := G.1) (ci := 6) (v := .ref a1) (C := RX6) (T := TX6) (N := 16) hx hb hts w_0 hown hE.1 hP 0 rfl rfl 0 (by decide) w_1 (fun _ h9 => h9) rfl dX6_counted_101 ?_
    refine lv_iconst (v := nI 0) hx hb dX6_counted_104 (by decide +kernel) ?_
    refine pcall (st1 := [.int (fLw f 0)]) (va_runS (As := [.ref a1, .int (nI 0)]) (rest := []) ⟨hx, hb, hml, hown, hts⟩ (c_X6_laneWeight l G a1 f hs 0 (by omega)) (va_cwS 2 hts gX6_counted_X6_laneWeight rfl rfl rfl (by decide +kernel) ⟨Nat.le_of_ble_eq_true rfl, Nat.le_of_ble_eq_true rfl⟩) (PC.preS hE (hP.sub [1] rfl)) rfl rfl hl.1 rfl (lv_room (Nat.le_of_ble_eq_true rfl)) dX6_counted_105 ⟨Nat.zero_le _, Nat.zero_le _⟩) rfl ?_
    refine lv_aload_n hx hb dX6_counted_108 rfl (lv_at hl 0 rfl) ?_
    refine va_get (D := G.1) (ci := 6) (v := .ref a1) (C := RX6) (T := TX6) (N := 16) hx hb hts w_0 hown hE.1 hP 0 rfl rfl 0 (by decide) w_1 (fun _ h9 => h9) rfl dX6_counted_109 ?_
    refine lv_iconst (v := nI 1) hx hb dX6_counted_112 (by decide +kernel) ?_
    refine pcall (st1 := [.int (fLw f 1), .int (fLw f 0)]) (va_runS (As := [.ref a1, .int (nI 1)]) (rest := [.int (fLw f 0)]) ⟨hx, hb, hml, hown, hts⟩ (c_X6_laneWeight l G a1 f hs 1 (by omega)) (va_cwS 2 hts gX6_counted_X6_laneWeight rfl rfl rfl (by decide +kernel) ⟨Nat.le_of_ble_eq_true rfl, Nat.le_of_ble_eq_true rfl⟩) (PC.preS hE (hP.sub [1] rfl)) rfl rfl hl.1 rfl (lv_room (Nat.le_of_ble_eq_true rfl)) dX6_counted_113 ⟨Nat.zero_le _, Nat.zero_le _⟩) rfl ?_
    refine lv_iadd hx hb dX6_counted_116 ?_
    refine tS (st' := [.int (fCnt f n 3)]) (congrArg (fun z => [Value.int z]) (rfl)) ?_
    exact W.iret hx hb hr (fun t ht hW => ⟨rfl, ht⟩) (fun _ h => nomatch h) dX6_counted_117
  · refine lv_tableIn (off := 117) (tgt := 118) hx hb dX6_counted_1 (by decide +kernel) (by decide +kernel) (by decide +kernel) (by decide) ?_
    have hl : lv_has ls 2 [(0, .ref ob), (1, .int (nI 4))] := hl
    refine lv_aload_n hx hb dX6_counted_118 rfl (lv_at hl 0 rfl) ?_
    refine va_get (D := G.1) (ci := 6) (v := .ref a1) (C := RX6) (T := TX6) (N := 16) hx hb hts w_0 hown hE.1 hP 0 rfl rfl 0 (by decide) w_1 (fun _ h9 => h9) rfl dX6_counted_119 ?_
    refine pcall (st1 := [.int (fLst f)]) (va_runS (As := [.ref a1]) (rest := []) ⟨hx, hb, hml, hown, hts⟩ (c_X6_list l G a1 f hs) (va_cwS 1 hts gX6_counted_X6_list rfl rfl rfl (by decide +kernel) ⟨Nat.le_of_ble_eq_true rfl, Nat.le_of_ble_eq_true rfl⟩) (PC.preS hE (hP.sub [1] rfl)) rfl rfl hl.1 rfl (lv_room (Nat.le_of_ble_eq_true rfl)) dX6_counted_122 ⟨Nat.zero_le _, Nat.zero_le _⟩) rfl ?_
    refine tS (st' := [.int (fCnt f n 4)]) (congrArg (fun z => [Value.int z]) (rfl)) ?_
    exact W.iret hx hb hr (fun t ht hW => ⟨rfl, ht⟩) (fun _ h => nomatch h) dX6_counted_125
  · refine lv_tableIn (off := 125) (tgt := 126) hx hb dX6_counted_1 (by decide +kernel) (by decide +kernel) (by decide +kernel) (by decide) ?_
    have hl : lv_has ls 2 [(0, .ref ob), (1, .int (nI 5))] := hl
    refine lv_aload_n hx hb dX6_counted_126 rfl (lv_at hl 0 rfl) ?_
    refine va_get (D := G.1) (ci := 6) (v := .ref a1) (C := RX6) (T := TX6) (N := 16) hx hb hts w_0 hown hE.1 hP 0 rfl rfl 0 (by decide) w_1 (fun _ h9 => h9) rfl dX6_counted_127 ?_
    refine lv_bipush (v := nI 47) hx hb dX6_counted_130 (by decide +kernel) ?_
    refine lv_iload_n hx hb dX6_counted_132 rfl (lv_at hl 1 rfl) ?_
    refine iaddN hx hb dX6_counted_133 ?_
    refine lv_iconst (v := nI 5) hx hb dX6_counted_134 (by decide +kernel) ?_
    refine isubN hx hb (by omega) dX6_counted_135 ?_
    refine ialdN (k := ((47 + 5) - 5)) hx hb hE.1 hP 1 0 rfl rfl (by omega) (by decide) dX6_counted_136 ?_
    refine tS (st' := [.int (fCnt f n 5)]) (congrArg (fun z => [Value.int z]) (rfl)) ?_
    exact W.iret hx hb hr (fun t ht hW => ⟨rfl, ht⟩) (fun _ h => nomatch h) dX6_counted_137
  · refine lv_tableIn (off := 125) (tgt := 126) hx hb dX6_counted_1 (by decide +kernel) (by decide +kernel) (by decide +kernel) (by decide) ?_
    have hl : lv_has ls 2 [(0, .ref ob), (1, .int (nI 6))] := hl
    refine lv_aload_n hx hb dX6_counted_126 rfl (lv_at hl 0 rfl) ?_
    refine va_get (D := G.1) (ci := 6) (v := .ref a1) (C := RX6) (T := TX6) (N := 16) hx hb hts w_0 hown hE.1 hP 0 rfl rfl 0 (by decide) w_1 (fun _ h9 => h9) rfl dX6_counted_127 ?_
    refine lv_bipush (v := nI 47) hx hb dX6_counted_130 (by decide +kernel) ?_
    refine lv_iload_n hx hb dX6_counted_132 rfl (lv_at hl 1 rfl) ?_
    refine iaddN hx hb dX6_counted_133 ?_
    refine lv_iconst (v := nI 5) hx hb dX6_counted_134 (by decide +kernel) ?_
    refine isubN hx hb (by omega) dX6_counted_135 ?_
    refine ialdN (k := ((47 + 6) - 5)) hx hb hE.1 hP 1 0 rfl rfl (by omega) (by decide) dX6_counted_136 ?_
    refine tS (st' := [.int (fCnt f n 6)]) (congrArg (fun z => [Value.int z]) (rfl)) ?_
    exact W.iret hx hb hr (fun t ht hW => ⟨rfl, ht⟩) (fun _ h => nomatch h) dX6_counted_137
  · refine lv_tableIn (off := 125) (tgt := 126) hx hb dX6_counted_1 (by decide +kernel) (by decide +kernel) (by decide +kernel) (by decide) ?_
    have hl : lv_has ls 2 [(0, .ref ob), (1, .int (nI 7))] := hl
    refine lv_aload_n hx hb dX6_counted_126 rfl (lv_at hl 0 rfl) ?_
    refine va_get (D := G.1) (ci := 6) (v := .ref a1) (C := RX6) (T := TX6) (N := 16) hx hb hts w_0 hown hE.1 hP 0 rfl rfl 0 (by decide) w_1 (fun _ h9 => h9) rfl dX6_counted_127 ?_
    refine lv_bipush (v := nI 47) hx hb dX6_counted_130 (by decide +kernel) ?_
    refine lv_iload_n hx hb dX6_counted_132 rfl (lv_at hl 1 rfl) ?_
    refine iaddN hx hb dX6_counted_133 ?_
    refine lv_iconst (v := nI 5) hx hb dX6_counted_134 (by decide +kernel) ?_
    refine isubN hx hb (by omega) dX6_counted_135 ?_
    refine ialdN (k := ((47 + 7) - 5)) hx hb hE.1 hP 1 0 rfl rfl (by omega) (by decide) dX6_counted_136 ?_
    refine tS (st' := [.int (fCnt f n 7)]) (congrArg (fun z => [Value.int z]) (rfl)) ?_
    exact W.iret hx hb hr (fun t ht hW => ⟨rfl, ht⟩) (fun _ h => nomatch h) dX6_counted_137
  · refine lv_tableIn (off := 142) (tgt := 143) hx hb dX6_counted_1 (by decide +kernel) (by decide +kernel) (by decide +kernel) (by decide) ?_
    have hl : lv_has ls 2 [(0, .ref ob), (1, .int (nI 8))] := hl
    refine lv_aload_n hx hb dX6_counted_143 rfl (lv_at hl 0 rfl) ?_
    refine va_get (D := G.1) (ci := 6) (v := .ref a1) (C := RX6) (T := TX6) (N := 16) hx hb hts w_0 hown hE.1 hP 0 rfl rfl 0 (by decide) w_1 (fun _ h9 => h9) rfl dX6_counted_144 ?_
    refine lv_bipush (v := nI 52) hx hb dX6_counted_147 (by decide +kernel) ?_
    refine lv_iload_n hx hb dX6_counted_149 rfl (lv_at hl 1 rfl) ?_
    refine iaddN hx hb dX6_counted_150 ?_
    refine lv_bipush (v := nI 8) hx hb dX6_counted_151 (by decide +kernel) ?_
    refine isubN hx hb (by omega) dX6_counted_153 ?_
    refine ialdN (k := ((52 + 8) - 8)) hx hb hE.1 hP 1 0 rfl rfl (by omega) (by decide) dX6_counted_154 ?_
    refine tS (st' := [.int (fCnt f n 8)]) (congrArg (fun z => [Value.int z]) (rfl)) ?_
    exact W.iret hx hb hr (fun t ht hW => ⟨rfl, ht⟩) (fun _ h => nomatch h) dX6_counted_155
  · refine lv_tableIn (off := 142) (tgt := 143) hx hb dX6_counted_1 (by decide +kernel) (by decide +kernel) (by decide +kernel) (by decide) ?_
    have hl : lv_has ls 2 [(0, .ref ob), (1, .int (nI 9))] := hl
    refine lv_aload_n hx hb dX6_counted_143 rfl (lv_at hl 0 rfl) ?_
    refine va_get (D := G.1) (ci := 6) (v := .ref a1) (C := RX6) (T := TX6) (N := 16) hx hb hts w_0 hown hE.1 hP 0 rfl rfl 0 (by decide) w_1 (fun _ h9 => h9) rfl dX6_counted_144 ?_
    refine lv_bipush (v := nI 52) hx hb dX6_counted_147 (by decide +kernel) ?_
    refine lv_iload_n hx hb dX6_counted_149 rfl (lv_at hl 1 rfl) ?_
    refine iaddN hx hb dX6_counted_150 ?_
    refine lv_bipush (v := nI 8) hx hb dX6_counted_151 (by decide +kernel) ?_
    refine isubN hx hb (by omega) dX6_counted_153 ?_
    refine ialdN (k := ((52 + 9) - 8)) hx hb hE.1 hP 1 0 rfl rfl (by omega) (by decide) dX6_counted_154 ?_
    refine tS (st' := [.int (fCnt f n 9)]) (congrArg (fun z => [Value.int z]) (rfl)) ?_
    exact W.iret hx hb hr (fun t ht hW => ⟨rfl, ht⟩) (fun _ h => nomatch h) dX6_counted_155
  · refine lv_tableIn (off := 142) (tgt := 143) hx hb dX6_counted_1 (by decide +kernel) (by decide +kernel) (by decide +kernel) (by decide) ?_
    have hl : lv_has ls 2 [(0, .ref ob), (1, .int (nI 10))] := hl
    refine lv_aload_n hx hb dX6_counted_143 rfl (lv_at hl 0 rfl) ?_
    refine va_get (D := G.1) (ci := 6) (v := .ref a1) (C := RX6) (T := TX6) (N := 16) hx hb hts w_0 hown hE.1 hP 0 rfl rfl 0 (by decide) w_1 (fun _ h9 => h9) rfl dX6_counted_144 ?_
    refine lv_bipush (v := nI 52) hx hb dX6_counted_147 (by decide +kernel) ?_
    refine lv_iload_n hx hb dX6_counted_149 rfl (lv_at hl 1 rfl) ?_
    refine iaddN hx hb dX6_counted_150 ?_
    refine lv_bipush (v := nI 8) hx hb dX6_counted_151 (by decide +kernel) ?_
    refine isubN hx hb (by omega) dX6_counted_153 ?_
    refine ialdN (k := ((52 + 10) - 8)) hx hb hE.1 hP 1 0 rfl rfl (by omega) (by decide) dX6_counted_154 ?_
    refine tS (st' := [.int (fCnt f n 10)]) (congrArg (fun z => [Value.int z]) (rfl)) ?_
    exact W.iret hx hb hr (fun t ht hW => ⟨rfl, ht⟩) (fun _ h => nomatch h) dX6_counted_155
  · refine lv_tableIn (off := 142) (tgt := 143) hx hb dX6_counted_1 (by decide +kernel) (by decide +kernel) (by decide +kernel) (by decide) ?_
    have hl : lv_has ls 2 [(0, .ref ob), (1, .int (nI 11))] := hl
    refine lv_aload_n hx hb dX6_counted_143 rfl (lv_at hl 0 rfl) ?_
    refine va_get (D := G.1) (ci := 6) (v := .ref a1) (C := RX6) (T := TX6) (N := 16) hx hb hts w_0 hown hE.1 hP 0 rfl rfl 0 (by decide) w_1 (fun _ h9 => h9) rfl dX6_counted_144 ?_
    refine lv_bipush (v := nI 52) hx hb dX6_counted_147 (by decide +kernel) ?_
    refine lv_iload_n hx hb dX6_counted_149 rfl (lv_at hl 1 rfl) ?_
    refine iaddN hx hb dX6_counted_150 ?_
    refine lv_bipush (v := nI 8) hx hb dX6_counted_151 (by decide +kernel) ?_
    refine isubN hx hb (by omega) dX6_counted_153 ?_
    refine ialdN (k := ((52 + 11) - 8)) hx hb hE.1 hP 1 0 rfl rfl (by omega) (by decide) dX6_counted_154 ?_
    refine tS (st' := [.int (fCnt f n 11)]) (congrArg (fun z => [Value.int z]) (rfl)) ?_
    exact W.iret hx hb hr (fun t ht hW => ⟨rfl, ht⟩) (fun _ h => nomatch h) dX6_counted_155
  · refine lv_tableIn (off := 142) (tgt := 143) hx hb dX6_counted_1 (by decide +kernel) (by decide +kernel) (by decide +kernel) (by decide) ?_
    have hl : lv_has ls 2 [(0, .ref ob), (1, .int (nI 12))] := hl
    refine lv_aload_n hx hb dX6_counted_143 rfl (lv_at hl 0 rfl) ?_
    refine va_get (D := G.1) (ci := 6) (v := .ref a1) (C := RX6) (T := TX6) (N := 16) hx hb hts w_0 hown hE.1 hP 0 rfl rfl 0 (by decide) w_1 (fun _ h9 => h9) rfl dX6_counted_144 ?_
    refine lv_bipush (v := nI 52) hx hb dX6_counted_147 (by decide +kernel) ?_
    refine lv_iload_n hx hb dX6_counted_149 rfl (lv_at hl 1 rfl) ?_
    refine iaddN hx hb dX6_counted_150 ?_
    refine lv_bipush (v := nI 8) hx hb dX6_counted_151 (by decide +kernel) ?_
    refine isubN hx hb (by omega) dX6_counted_153 ?_
    refine ialdN (k := ((52 + 12) - 8)) hx hb hE.1 hP 1 0 rfl rfl (by omega) (by decide) dX6_counted_154 ?_
    refine tS (st' := [.int (fCnt f n 12)]) (congrArg (fun z => [Value.int z]) (rfl)) ?_
    exact W.iret hx hb hr (fun t ht hW => ⟨rfl, ht⟩) (fun _ h => nomatch h) dX6_counted_155
  · refine lv_tableIn (off := 137) (tgt := 138) hx hb dX6_counted_1 (by decide +kernel) (by decide +kernel) (by decide +kernel) (by decide) ?_
    have hl : lv_has ls 2 [(0, .ref ob), (1, .int (nI 13))] := hl
    refine lv_aload_n hx hb dX6_counted_138 rfl (lv_at hl 0 rfl) ?_
    refine va_get (D := G.1) (ci := 6) (v := .int (nI n)) (C := RX6) (T := TX6) (N := 16) hx hb hts w_0 hown hE.1 hP 0 rfl rfl 3 (by decide) w_2 (fun _ h9 => h9) rfl dX6_counted_139 ?_
    refine tS (st' := [.int (fCnt f n 13)]) (congrArg (fun z => [Value.int z]) (rfl)) ?_
    exact W.iret hx hb hr (fun t ht hW => ⟨rfl, ht⟩) (fun _ h => nomatch h) dX6_counted_142
set_option maxHeartbeats 4000000 in
set_option maxRecDepth 100000 in
theorem c_X6_weakestOne (l : Launch) (G : eG) (ob a1 a2 a3 a4 a5 : Nat) (f th pa sn tx : Nat → Int32) (n len spot : Nat) (kp thr bad lt one two wh : Int32) (hash : Int64) (hs : Shp f) : Met l yX6_weakestOne wsX6_weakestOne ({ frames := 4, cells := 0, slots := 0, locals := 87 }) (PC [.ref ob] G (fun H => va_P G.1 vwCl [(ob, .inr (6, [.ref a1, .ref a2, .ref a3, .int (nI n), .ref a4, .int kp, .ref a5, .int (nI len), .int thr, .int (nI spot), .int bad, .int lt, .int one, .int two, .int wh, .long hash])), (a1, .inl (G.2.1, 97, .inl f)), (a2, .inl (G.2.1, 97, .inl th)), (a3, .inl (G.2.1, 582, .inl pa)), (a4, .inl (G.2.1, 97, .inl sn)), (a5, .inl (G.2.1, 60, .inl tx))] H)) (PQ (some (.int (nI (wkN f 20))))) 0 0 noA := by
  refine ofB (cc := cX6_weakestOne) (maxL := 4) (ret := (some .int)) (by decide) rfl (Nat.le_of_ble_eq_true rfl) ?_
  intro p e s m below meth c hx hb hr hlocks hml hown hin hts hE hI ls hl
  replace hown : s.vm.findClass RX6 = some m.cls := hown
  have hl : lv_has ls 4 [(0, .ref ob)] := hl
  have hP : va_P G.1 vwCl [(ob, .inr (6, [.ref a1, .ref a2, .ref a3, .int (nI n), .ref a4, .int kp, .ref a5, .int (nI len), .int thr, .int (nI spot), .int bad, .int lt, .int one, .int two, .int wh, .long hash])), (a1, .inl (G.2.1, 97, .inl f)), (a2, .inl (G.2.1, 97, .inl th)), (a3, .inl (G.2.1, 582, .inl pa)), (a4, .inl (G.2.1, 97, .inl sn)), (a5, .inl (G.2.1, 60, .inl tx))] s.heap := hI
  have w_0 : ∀ w ∈ u_ws RX6 TX6 16, w ∈ wsX6_weakestOne := by decide +kernel
  have w_1 := hts (.fieldLink RX6 7 "CableFerryModel" "now" "[I") (by decide +kernel)
  skip
  refine lv_iconst (v := nI 0) hx hb dX6_weakestOne_0 (by decide +kernel) ?_
  refine lv_istore_n (lv' := [(1, .int (nI 0)), (0, .ref ob)]) hx hb dX6_weakestOne_1 rfl hl (by decide) rfl (fun ls hl => ?_)
  refine lv_iconst (v := nI 1) hx hb dX6_weakestOne_2 (by decide +kernel) ?_
  refine lv_istore_n (lv' := [(2, .int (nI 1)), (1, .int (nI 0)), (0, .ref ob)]) hx hb dX6_weakestOne_3 rfl hl (by decide) rfl (fun ls hl => ?_)
  refine loopL (σ := Nat × Nat) (n := 4) (pc1 := 4) (fun (z_ : Nat × Nat) => match z_ with | (i, b) => 20 - i) (fun (z_ : Nat × Nat) => match z_ with | (i, b) => i ≤ 20 ∧ b = wkN f i ∧ b < 20) (fun (z_ : Nat × Nat) => match z_ with | (i, b) => [(2, .int (nI i)), (1, .int (nI b)), (0, .ref ob)]) (fun (z_ : Nat × Nat) => match z_ with | (i, b) => []) ?_ (1, 0) _ ⟨by omega, wkN_1.symm, by omega⟩ (lv_sub hl [0, 1, 2] rfl)
  rintro ⟨i, b⟩ ls hI hl ih4
  have hl : lv_has ls 4 [(2, .int (nI i)), (1, .int (nI b)), (0, .ref ob)] := hl
  replace hI : i ≤ 20 ∧ b = wkN f i ∧ b < 20 := hI
  obtain ⟨hi, ha, hb20⟩ := hI
  refine tS (st' := []) rfl ?_
  refine lv_iload_n hx hb dX6_weakestOne_4 rfl (lv_at hl 0 rfl) ?_
  refine lv_bipush (v := nI 20) hx hb dX6_weakestOne_5 (by decide +kernel) ?_
  refine icmp_geN (tgt := 61) hx hb (by omega) (by omega) dX6_weakestOne_7 (by decide) (fun c7 => ?_) (fun c7 => ?_)
  · skip
    refine lv_iload_n hx hb dX6_weakestOne_61 rfl (lv_at hl 1 rfl) ?_
    refine tS (st' := [.int (nI (wkN f 20))]) (congrArg (fun z => [Value.int z]) (by rw [ha, show i = 20 by omega])) ?_
    exact W.iret hx hb hr (fun t ht hW => ⟨rfl, ht⟩) (fun _ h => nomatch h) dX6_weakestOne_62
  · skip
    refine lv_aload_n hx hb dX6_weakestOne_10 rfl (lv_at hl 2 rfl) ?_
    refine va_get (D := G.1) (ci := 6) (v := .ref a1) (C := RX6) (T := TX6) (N := 16) hx hb hts w_0 hown hE.1 hP 0 rfl rfl 0 (by decide) w_1 (fun _ h9 => h9) rfl dX6_weakestOne_11 ?_
    refine lv_iload_n hx hb dX6_weakestOne_14 rfl (lv_at hl 0 rfl) ?_
    refine pcall (st1 := [.int (fStr f i)]) (va_runS (As := [.ref a1, .int (nI i)]) (rest := []) ⟨hx, hb, hml, hown, hts⟩ (c_X6_strength l G a1 f i (by omega)) (va_cwS 2 hts gX6_weakestOne_X6_strength rfl rfl rfl (by decide +kernel) ⟨Nat.le_of_ble_eq_true rfl, Nat.le_of_ble_eq_true rfl⟩) (PC.preS hE (hP.sub [1] rfl)) rfl rfl hl.1 rfl (lv_room (Nat.le_of_ble_eq_true rfl)) dX6_weakestOne_15 ⟨Nat.zero_le _, Nat.zero_le _⟩) rfl ?_
    refine lv_aload_n hx hb dX6_weakestOne_18 rfl (lv_at hl 2 rfl) ?_
    refine va_get (D := G.1) (ci := 6) (v := .ref a1) (C := RX6) (T := TX6) (N := 16) hx hb hts w_0 hown hE.1 hP 0 rfl rfl 0 (by decide) w_1 (fun _ h9 => h9) rfl dX6_weakestOne_19 ?_
    refine lv_iload_n hx hb dX6_weakestOne_22 rfl (lv_at hl 0 rfl) ?_
    refine pcall (st1 := [.int (fTen f i), .int (fStr f i)]) (va_runS (As := [.ref a1, .int (nI i)]) (rest := [.int (fStr f i)]) ⟨hx, hb, hml, hown, hts⟩ (c_X6_tension l G a1 f hs i (by omega)) (va_cwS 2 hts gX6_weakestOne_X6_tension rfl rfl rfl (by decide +kernel) ⟨Nat.le_of_ble_eq_true rfl, Nat.le_of_ble_eq_true rfl⟩) (PC.preS hE (hP.sub [1] rfl)) rfl rfl hl.1 rfl (lv_room (Nat.le_of_ble_eq_true rfl)) dX6_weakestOne_23 ⟨Nat.zero_le _, Nat.zero_le _⟩) rfl ?_
    refine lv_isub hx hb dX6_weakestOne_26 ?_
    refine tI (y := fRes f i) (rfl) ?_
    refine lv_istore_n (lv' := [(3, .int (fRes f i)), (2, .int (nI i)), (1, .int (nI b)), (0, .ref ob)]) hx hb dX6_weakestOne_27 rfl hl (by decide) rfl (fun ls hl => ?_)
    refine lv_iload_n hx hb dX6_weakestOne_28 rfl (lv_at hl 0 rfl) ?_
    refine lv_aload_n hx hb dX6_weakestOne_29 rfl (lv_at hl 3 rfl) ?_
    refine va_get (D := G.1) (ci := 6) (v := .ref a1) (C := RX6) (T := TX6) (N := 16) hx hb hts w_0 hown hE.1 hP 0 rfl rfl 0 (by decide) w_1 (fun _ h9 => h9) rfl dX6_weakestOne_30 ?_
    refine lv_iload_n hx hb dX6_weakestOne_33 rfl (lv_at hl 2 rfl) ?_
    refine pcall (st1 := [.int (fStr f b), .int (fRes f i)]) (va_runS (As := [.ref a1, .int (nI b)]) (rest := [.int (fRes f i)]) ⟨hx, hb, hml, hown, hts⟩ (c_X6_strength l G a1 f b (by omega)) (va_cwS 2 hts gX6_weakestOne_X6_strength rfl rfl rfl (by decide +kernel) ⟨Nat.le_of_ble_eq_true rfl, Nat.le_of_ble_eq_true rfl⟩) (PC.preS hE (hP.sub [1] rfl)) rfl rfl hl.1 rfl (lv_room (Nat.le_of_ble_eq_true rfl)) dX6_weakestOne_34 ⟨Nat.zero_le _, Nat.zero_le _⟩) rfl ?_
    refine lv_aload_n hx hb dX6_weakestOne_37 rfl (lv_at hl 3 rfl) ?_
    refine va_get (D := G.1) (ci := 6) (v := .ref a1) (C := RX6) (T := TX6) (N := 16) hx hb hts w_0 hown hE.1 hP 0 rfl rfl 0 (by decide) w_1 (fun _ h9 => h9) rfl dX6_weakestOne_38 ?_
    refine lv_iload_n hx hb dX6_weakestOne_41 rfl (lv_at hl 2 rfl) ?_
    refine pcall (st1 := [.int (fTen f b), .int (fStr f b), .int (fRes f i)]) (va_runS (As := [.ref a1, .int (nI b)]) (rest := [.int (fStr f b), .int (fRes f i)]) ⟨hx, hb, hml, hown, hts⟩ (c_X6_tension l G a1 f hs b (by omega)) (va_cwS 2 hts gX6_weakestOne_X6_tension rfl rfl rfl (by decide +kernel) ⟨Nat.le_of_ble_eq_true rfl, Nat.le_of_ble_eq_true rfl⟩) (PC.preS hE (hP.sub [1] rfl)) rfl rfl hl.1 rfl (lv_room (Nat.le_of_ble_eq_true rfl)) dX6_weakestOne_42 ⟨Nat.zero_le _, Nat.zero_le _⟩) rfl ?_
    refine lv_isub hx hb dX6_weakestOne_45 ?_
    refine tI (y := fRes f b) (rfl) ?_
    refine cutL (σ := Nat) (n := 4) (pc1 := 54) (fun r => r = wkN f (i + 1) ∧ r < 20) (fun r => [(3, .int (fRes f i)), (2, .int (nI i)), (1, .int (nI b)), (0, .ref ob)]) (fun r => [.int (nI r)]) ?_ (fun J54 => ?_)
    · rintro r ls hI hl
      have hl : lv_has ls 4 [(3, .int (fRes f i)), (2, .int (nI i)), (1, .int (nI b)), (0, .ref ob)] := hl
      replace hI : r = wkN f (i + 1) ∧ r < 20 := hI
      have hm := hI
      refine tS (st' := [.int (nI r)]) rfl ?_
      refine lv_istore_n (lv' := [(1, .int (nI r)), (3, .int (fRes f i)), (2, .int (nI i)), (0, .ref ob)]) hx hb dX6_weakestOne_54 rfl hl (by decide) rfl (fun ls hl => ?_)
      refine lv_iinc (v := nI (i + 1)) (lv' := [(2, .int (nI (i + 1))), (1, .int (nI r)), (3, .int (fRes f i)), (0, .ref ob)]) hx hb dX6_weakestOne_55 hl (k := 2) rfl (nI_inc1 _) (by decide) rfl (fun ls hl => ?_)
      refine lv_goto (tgt := 4) hx hb dX6_weakestOne_58 (by decide) ?_
      exact ih4 ((i + 1), r) _ ⟨by omega, hm.1, hm.2⟩ (lv_sub hl [0, 1, 3] rfl) (by (try dsimp only); omega)
    · skip
      refine lv_icmp_ge (tgt := 53) hx hb dX6_weakestOne_46 (by decide) (fun c46 => ?_) (fun c46 => ?_)
      · skip
        refine lv_iload_n hx hb dX6_weakestOne_53 rfl (lv_at hl 2 rfl) ?_
        exact J54 b _ ⟨by show _ = (if _ ≤ _ then _ else _); rw [← ha]; simp [c46], by omega⟩ (lv_sub hl [0, 1, 2, 3] rfl)
      · skip
        refine lv_iload_n hx hb dX6_weakestOne_49 rfl (lv_at hl 1 rfl) ?_
        refine lv_goto (tgt := 54) hx hb dX6_weakestOne_50 (by decide) ?_
        exact J54 i _ ⟨by show _ = (if _ ≤ _ then _ else _); rw [← ha]; simp [c46], by omega⟩ (lv_sub hl [0, 1, 2, 3] rfl)
set_option maxHeartbeats 4000000 in
set_option maxRecDepth 100000 in
theorem c_X6_withLoad (l : Launch) (G : eG) (ob a1 a2 a3 a4 a5 : Nat) (f th pa sn tx : Nat → Int32) (n len spot : Nat) (kp thr bad lt one two wh : Int32) (hash : Int64) (hs : Shp f) (q : Nat) (hq : q < 2) : Met l yX6_withLoad wsX6_withLoad ({ frames := 4, cells := 0, slots := 0, locals := 87 }) (PC [.ref ob, .int (nI q)] G (fun H => va_P G.1 vwCl [(ob, .inr (6, [.ref a1, .ref a2, .ref a3, .int (nI n), .ref a4, .int kp, .ref a5, .int (nI len), .int thr, .int (nI spot), .int bad, .int lt, .int one, .int two, .int wh, .long hash])), (a1, .inl (G.2.1, 97, .inl f)), (a2, .inl (G.2.1, 97, .inl th)), (a3, .inl (G.2.1, 582, .inl pa)), (a4, .inl (G.2.1, 97, .inl sn)), (a5, .inl (G.2.1, 60, .inl tx))] H)) (PQ (some (.int (fWl f q)))) 0 0 noA := by
  refine ofB (cc := cX6_withLoad) (maxL := 5) (ret := (some .int)) (by decide) rfl (Nat.le_of_ble_eq_true rfl) ?_
  intro p e s m below meth c hx hb hr hlocks hml hown hin hts hE hI ls hl
  replace hown : s.vm.findClass RX6 = some m.cls := hown
  have hl : lv_has ls 5 [(0, .ref ob), (1, .int (nI q))] := hl
  have hP : va_P G.1 vwCl [(ob, .inr (6, [.ref a1, .ref a2, .ref a3, .int (nI n), .ref a4, .int kp, .ref a5, .int (nI len), .int thr, .int (nI spot), .int bad, .int lt, .int one, .int two, .int wh, .long hash])), (a1, .inl (G.2.1, 97, .inl f)), (a2, .inl (G.2.1, 97, .inl th)), (a3, .inl (G.2.1, 582, .inl pa)), (a4, .inl (G.2.1, 97, .inl sn)), (a5, .inl (G.2.1, 60, .inl tx))] s.heap := hI
  have w_0 : ∀ w ∈ u_ws RX6 TX6 16, w ∈ wsX6_withLoad := by decide +kernel
  have w_1 := hts (.fieldLink RX6 7 "CableFerryModel" "now" "[I") (by decide +kernel)
  obtain ⟨h51, h51b⟩ := hs.2.2.1
  obtain ⟨h50, h50b⟩ := hs.2.2.2.1
  refine lv_aload_n hx hb dX6_withLoad_0 rfl (lv_at hl 0 rfl) ?_
  refine lv_iload_n hx hb dX6_withLoad_1 rfl (lv_at hl 1 rfl) ?_
  refine pcall (st1 := [.int (b2 (fCan f q = true))]) (va_runV (As := [.int (nI q)]) (rest := []) ⟨hx, hb, hml, hown, hts⟩ (c_X6_canLoad l G ob a1 a2 a3 a4 a5 f th pa sn tx n len spot kp thr bad lt one two wh hash hs q (by omega)) (cwV 1 hts gX6_withLoad_X6_canLoad rfl rfl rfl (by decide +kernel) ⟨Nat.le_of_ble_eq_true rfl, Nat.le_of_ble_eq_true rfl⟩) (PC.preV hE (va_recv hE.1 hP (ci := 6) (q0 := 0) rfl rfl) hP) rfl rfl hl.1 rfl (lv_room (Nat.le_of_ble_eq_true rfl)) dX6_withLoad_2 ⟨Nat.zero_le _, Nat.zero_le _⟩) rfl ?_
  refine lv_if_ne (tgt := 10) hx hb dX6_withLoad_5 (by decide) (fun c5 => ?_) (fun c5 => ?_)
  · skip
    refine lv_aload_n hx hb dX6_withLoad_10 rfl (lv_at hl 0 rfl) ?_
    refine va_get (D := G.1) (ci := 6) (v := .ref a1) (C := RX6) (T := TX6) (N := 16) hx hb hts w_0 hown hE.1 hP 0 rfl rfl 0 (by decide) w_1 (fun _ h9 => h9) rfl dX6_withLoad_11 ?_
    refine lv_aload_n hx hb dX6_withLoad_14 rfl (lv_at hl 0 rfl) ?_
    refine va_get (D := G.1) (ci := 6) (v := .ref a1) (C := RX6) (T := TX6) (N := 16) hx hb hts w_0 hown hE.1 hP 0 rfl rfl 0 (by decide) w_1 (fun _ h9 => h9) rfl dX6_withLoad_15 ?_
    refine lv_bipush (v := nI 51) hx hb dX6_withLoad_18 (by decide +kernel) ?_
    refine ialdN (k := 51) hx hb hE.1 hP 1 0 rfl rfl (by omega) (by decide) dX6_withLoad_20 ?_
    refine tI (y := nI (nn f 51)) h51 ?_
    refine lv_iconst (v := nI 0) hx hb dX6_withLoad_21 (by decide +kernel) ?_
    refine pcall (st1 := [.int (f (((57 + (11 * (nn f 51))) + 1) + 0))]) (va_runS (As := [.ref a1, .int (nI (nn f 51)), .int (nI 0)]) (rest := []) ⟨hx, hb, hml, hown, hts⟩ (c_X6_weightOf l G a1 f (nn f 51) 0 (by omega) (by omega)) (va_cwS 3 hts gX6_withLoad_X6_weightOf rfl rfl rfl (by decide +kernel) ⟨Nat.le_of_ble_eq_true rfl, Nat.le_of_ble_eq_true rfl⟩) (PC.preS hE (hP.sub [1] rfl)) rfl rfl hl.1 rfl (lv_room (Nat.le_of_ble_eq_true rfl)) dX6_withLoad_22 ⟨Nat.zero_le _, Nat.zero_le _⟩) rfl ?_
    refine tI (y := f (fAt f + 1 + 0)) (rfl) ?_
    refine lv_istore_n (lv' := [(2, .int (f (fAt f + 1 + 0))), (0, .ref ob), (1, .int (nI q))]) hx hb dX6_withLoad_25 rfl hl (by decide) rfl (fun ls hl => ?_)
    refine lv_aload_n hx hb dX6_withLoad_26 rfl (lv_at hl 1 rfl) ?_
    refine va_get (D := G.1) (ci := 6) (v := .ref a1) (C := RX6) (T := TX6) (N := 16) hx hb hts w_0 hown hE.1 hP 0 rfl rfl 0 (by decide) w_1 (fun _ h9 => h9) rfl dX6_withLoad_27 ?_
    refine lv_iconst (v := nI 0) hx hb dX6_withLoad_30 (by decide +kernel) ?_
    refine pcall (st1 := [.int (fLw f 0)]) (va_runS (As := [.ref a1, .int (nI 0)]) (rest := []) ⟨hx, hb, hml, hown, hts⟩ (c_X6_laneWeight l G a1 f hs 0 (by omega)) (va_cwS 2 hts gX6_withLoad_X6_laneWeight rfl rfl rfl (by decide +kernel) ⟨Nat.le_of_ble_eq_true rfl, Nat.le_of_ble_eq_true rfl⟩) (PC.preS hE (hP.sub [1] rfl)) rfl rfl hl.1 rfl (lv_room (Nat.le_of_ble_eq_true rfl)) dX6_withLoad_31 ⟨Nat.zero_le _, Nat.zero_le _⟩) rfl ?_
    refine lv_aload_n hx hb dX6_withLoad_34 rfl (lv_at hl 1 rfl) ?_
    refine va_get (D := G.1) (ci := 6) (v := .ref a1) (C := RX6) (T := TX6) (N := 16) hx hb hts w_0 hown hE.1 hP 0 rfl rfl 0 (by decide) w_1 (fun _ h9 => h9) rfl dX6_withLoad_35 ?_
    refine lv_iconst (v := nI 1) hx hb dX6_withLoad_38 (by decide +kernel) ?_
    refine pcall (st1 := [.int (fLw f 1), .int (fLw f 0)]) (va_runS (As := [.ref a1, .int (nI 1)]) (rest := [.int (fLw f 0)]) ⟨hx, hb, hml, hown, hts⟩ (c_X6_laneWeight l G a1 f hs 1 (by omega)) (va_cwS 2 hts gX6_withLoad_X6_laneWeight rfl rfl rfl (by decide +kernel) ⟨Nat.le_of_ble_eq_true rfl, Nat.le_of_ble_eq_true rfl⟩) (PC.preS hE (hP.sub [1] rfl)) rfl rfl hl.1 rfl (lv_room (Nat.le_of_ble_eq_true rfl)) dX6_withLoad_39 ⟨Nat.zero_le _, Nat.zero_le _⟩) rfl ?_
    refine lv_isub hx hb dX6_withLoad_42 ?_
    refine lv_iload_n hx hb dX6_withLoad_43 rfl (lv_at hl 2 rfl) ?_
    refine cutL (σ := Int32) (n := 5) (pc1 := 53) (fun r => r = if q = 0 then f (fAt f + 1 + 0) else -f (fAt f + 1 + 0)) (fun r => [(2, .int (f (fAt f + 1 + 0))), (0, .ref ob), (1, .int (nI q))]) (fun r => [.int r, .int ((fLw f 0) - (fLw f 1))]) ?_ (fun J53 => ?_)
    · rintro r ls hI hl
      replace hI : r = if q = 0 then f (fAt f + 1 + 0) else -f (fAt f + 1 + 0) := hI
      subst hI
      have hl : lv_has ls 5 [(2, .int (f (fAt f + 1 + 0))), (0, .ref ob), (1, .int (nI q))] := hl
      refine tS (st' := [.int (if q = 0 then f (fAt f + 1 + 0) else -f (fAt f + 1 + 0)), .int ((fLw f 0) - (fLw f 1))]) rfl ?_
      refine lv_iadd hx hb dX6_withLoad_53 ?_
      refine lv_istore_n (lv' := [(3, .int (((fLw f 0) - (fLw f 1)) + (if q = 0 then f (fAt f + 1 + 0) else -f (fAt f + 1 + 0)))), (2, .int (f (fAt f + 1 + 0))), (0, .ref ob), (1, .int (nI q))]) hx hb dX6_withLoad_54 rfl hl (by decide) rfl (fun ls hl => ?_)
      refine lv_aload_n hx hb dX6_withLoad_55 rfl (lv_at hl 2 rfl) ?_
      refine lv_iconst (v := nI 3) hx hb dX6_withLoad_56 (by decide +kernel) ?_
      refine pcall (st1 := [.int (fCnt f n 3)]) (va_runV (As := [.int (nI 3)]) (rest := []) ⟨hx, hb, hml, hown, hts⟩ (c_X6_counted l G ob a1 a2 a3 a4 a5 f th pa sn tx n len spot kp thr bad lt one two wh hash hs 3 (by omega)) (cwV 1 hts gX6_withLoad_X6_counted rfl rfl rfl (by decide +kernel) ⟨Nat.le_of_ble_eq_true rfl, Nat.le_of_ble_eq_true rfl⟩) (PC.preV hE (va_recv hE.1 hP (ci := 6) (q0 := 0) rfl rfl) hP) rfl rfl hl.1 rfl (lv_room (Nat.le_of_ble_eq_true rfl)) dX6_withLoad_57 ⟨Nat.zero_le _, Nat.zero_le _⟩) rfl ?_
      refine tI (y := fLw f 0 + fLw f 1) (rfl) ?_
      refine lv_iload_n hx hb dX6_withLoad_60 rfl (lv_at hl 1 rfl) ?_
      refine lv_iadd hx hb dX6_withLoad_61 ?_
      refine lv_istore (lv' := [(4, .int ((fLw f 0 + fLw f 1) + (f (fAt f + 1 + 0)))), (3, .int (((fLw f 0) - (fLw f 1)) + (if q = 0 then f (fAt f + 1 + 0) else -f (fAt f + 1 + 0)))), (2, .int (f (fAt f + 1 + 0))), (0, .ref ob), (1, .int (nI q))]) hx hb dX6_withLoad_62 hl (by decide) rfl (fun ls hl => ?_)
      refine lv_aload_n hx hb dX6_withLoad_64 rfl (lv_at hl 3 rfl) ?_
      refine va_get (D := G.1) (ci := 6) (v := .ref a1) (C := RX6) (T := TX6) (N := 16) hx hb hts w_0 hown hE.1 hP 0 rfl rfl 0 (by decide) w_1 (fun _ h9 => h9) rfl dX6_withLoad_65 ?_
      refine lv_aload_n hx hb dX6_withLoad_68 rfl (lv_at hl 3 rfl) ?_
      refine va_get (D := G.1) (ci := 6) (v := .ref a1) (C := RX6) (T := TX6) (N := 16) hx hb hts w_0 hown hE.1 hP 0 rfl rfl 0 (by decide) w_1 (fun _ h9 => h9) rfl dX6_withLoad_69 ?_
      refine lv_iconst (v := nI 3) hx hb dX6_withLoad_72 (by decide +kernel) ?_
      refine lv_aload_n hx hb dX6_withLoad_73 rfl (lv_at hl 3 rfl) ?_
      refine va_get (D := G.1) (ci := 6) (v := .ref a1) (C := RX6) (T := TX6) (N := 16) hx hb hts w_0 hown hE.1 hP 0 rfl rfl 0 (by decide) w_1 (fun _ h9 => h9) rfl dX6_withLoad_74 ?_
      refine lv_bipush (v := nI 50) hx hb dX6_withLoad_77 (by decide +kernel) ?_
      refine ialdN (k := 50) hx hb hE.1 hP 1 0 rfl rfl (by omega) (by decide) dX6_withLoad_79 ?_
      refine tI (y := nI (nn f 50)) h50 ?_
      refine lv_bipush (v := nI 24) hx hb dX6_withLoad_80 (by decide +kernel) ?_
      refine iremN hx hb (by omega) (by decide) (by decide) dX6_withLoad_82 ?_
      refine iaddN hx hb dX6_withLoad_83 ?_
      refine ialdN (k := (3 + ((nn f 50) % 24))) hx hb hE.1 hP 1 0 rfl rfl (by omega) (by decide) dX6_withLoad_84 ?_
      refine lv_iload_n hx hb dX6_withLoad_85 rfl (lv_at hl 1 rfl) ?_
      refine pcall (st1 := [.int (absI (((fLw f 0) - (fLw f 1)) + (if q = 0 then f (fAt f + 1 + 0) else -f (fAt f + 1 + 0)))), .int (f (3 + ((nn f 50) % 24))), .ref a1]) (va_runS (As := [.int (((fLw f 0) - (fLw f 1)) + (if q = 0 then f (fAt f + 1 + 0) else -f (fAt f + 1 + 0)))]) (rest := [.int (f (3 + ((nn f 50) % 24))), .ref a1]) ⟨hx, hb, hml, hown, hts⟩ (c_X6_size l G (((fLw f 0) - (fLw f 1)) + (if q = 0 then f (fAt f + 1 + 0) else -f (fAt f + 1 + 0)))) (va_cwS 1 hts gX6_withLoad_X6_size rfl rfl rfl (by decide +kernel) ⟨Nat.le_of_ble_eq_true rfl, Nat.le_of_ble_eq_true rfl⟩) (PC.preS hE P_nil) rfl rfl hl.1 rfl (lv_room (Nat.le_of_ble_eq_true rfl)) dX6_withLoad_86 ⟨Nat.zero_le _, Nat.zero_le _⟩) rfl ?_
      refine lv_iload hx hb dX6_withLoad_89 (lv_at hl 0 rfl) ?_
      refine pcall (st1 := [.int (fGre f (f (3 + ((nn f 50) % 24))) (absI (((fLw f 0) - (fLw f 1)) + (if q = 0 then f (fAt f + 1 + 0) else -f (fAt f + 1 + 0)))) ((fLw f 0 + fLw f 1) + (f (fAt f + 1 + 0))))]) (va_runS (As := [.ref a1, .int (f (3 + ((nn f 50) % 24))), .int (absI (((fLw f 0) - (fLw f 1)) + (if q = 0 then f (fAt f + 1 + 0) else -f (fAt f + 1 + 0)))), .int ((fLw f 0 + fLw f 1) + (f (fAt f + 1 + 0)))]) (rest := []) ⟨hx, hb, hml, hown, hts⟩ (c_X6_greatest l G a1 f (f (3 + ((nn f 50) % 24))) (absI (((fLw f 0) - (fLw f 1)) + (if q = 0 then f (fAt f + 1 + 0) else -f (fAt f + 1 + 0)))) ((fLw f 0 + fLw f 1) + (f (fAt f + 1 + 0)))) (va_cwS 4 hts gX6_withLoad_X6_greatest rfl rfl rfl (by decide +kernel) ⟨Nat.le_of_ble_eq_true rfl, Nat.le_of_ble_eq_true rfl⟩) (PC.preS hE (hP.sub [1] rfl)) rfl rfl hl.1 rfl (lv_room (Nat.le_of_ble_eq_true rfl)) dX6_withLoad_91 ⟨Nat.zero_le _, Nat.zero_le _⟩) rfl ?_
      refine tS (st' := [.int (fWl f q)]) (congrArg (fun z => [Value.int z]) (by rw [b2_1] at c5; exact (if_pos c5).symm)) ?_
      exact W.iret hx hb hr (fun t ht hW => ⟨rfl, ht⟩) (fun _ h => nomatch h) dX6_withLoad_94
    · skip
      refine if_neN (tgt := 51) hx hb (by omega) dX6_withLoad_44 (by decide) (fun c44 => ?_) (fun c44 => ?_)
      · skip
        refine lv_iload_n hx hb dX6_withLoad_51 rfl (lv_at hl 0 rfl) ?_
        refine lv_ineg hx hb dX6_withLoad_52 ?_
        exact J53 (-(f (fAt f + 1 + 0))) _ (by (try simp only [i_lt, Classical.not_not, b2_0, b2_1] at c5); (try simp only [i_lt, Classical.not_not, b2_0, b2_1] at c44); simp [b2, c5, c44]) (lv_sub hl [0, 1, 2] rfl)
      · skip
        refine lv_iload_n hx hb dX6_withLoad_47 rfl (lv_at hl 0 rfl) ?_
        refine lv_goto (tgt := 53) hx hb dX6_withLoad_48 (by decide) ?_
        exact J53 (f (fAt f + 1 + 0)) _ (by (try simp only [i_lt, Classical.not_not, b2_0, b2_1] at c5); (try simp only [i_lt, Classical.not_not, b2_0, b2_1] at c44); simp [b2, c5, c44]) (lv_sub hl [0, 1, 2] rfl)
  · skip
    refine lv_iconst (v := -1) hx hb dX6_withLoad_8 (by decide +kernel) ?_
    refine tS (st' := [.int (fWl f q)]) (congrArg (fun z => [Value.int z]) (by rw [b2_0] at c5; exact (if_neg c5).symm)) ?_
    exact W.iret hx hb hr (fun t ht hW => ⟨rfl, ht⟩) (fun _ h => nomatch h) dX6_withLoad_9
set_option maxHeartbeats 4000000 in
set_option maxRecDepth 100000 in
theorem c_X6_best (l : Launch) (G : eG) (ob a1 a2 a3 a4 a5 : Nat) (f th pa sn tx : Nat → Int32) (n len spot : Nat) (kp thr bad lt one two wh : Int32) (hash : Int64) (hs : Shp f) : Met l yX6_best wsX6_best ({ frames := 4, cells := 0, slots := 0, locals := 87 }) (PC [.ref ob] G (fun H => va_P G.1 vwCl [(ob, .inr (6, [.ref a1, .ref a2, .ref a3, .int (nI n), .ref a4, .int kp, .ref a5, .int (nI len), .int thr, .int (nI spot), .int bad, .int lt, .int one, .int two, .int wh, .long hash])), (a1, .inl (G.2.1, 97, .inl f)), (a2, .inl (G.2.1, 97, .inl th)), (a3, .inl (G.2.1, 582, .inl pa)), (a4, .inl (G.2.1, 97, .inl sn)), (a5, .inl (G.2.1, 60, .inl tx))] H)) (PQ (some (.int (nI (bN f 24))))) 0 0 noA := by
  refine ofB (cc := cX6_best) (maxL := 5) (ret := (some .int)) (by decide) rfl (Nat.le_of_ble_eq_true rfl) ?_
  intro p e s m below meth c hx hb hr hlocks hml hown hin hts hE hI ls hl
  replace hown : s.vm.findClass RX6 = some m.cls := hown
  have hl : lv_has ls 5 [(0, .ref ob)] := hl
  have hP : va_P G.1 vwCl [(ob, .inr (6, [.ref a1, .ref a2, .ref a3, .int (nI n), .ref a4, .int kp, .ref a5, .int (nI len), .int thr, .int (nI spot), .int bad, .int lt, .int one, .int two, .int wh, .long hash])), (a1, .inl (G.2.1, 97, .inl f)), (a2, .inl (G.2.1, 97, .inl th)), (a3, .inl (G.2.1, 582, .inl pa)), (a4, .inl (G.2.1, 97, .inl sn)), (a5, .inl (G.2.1, 60, .inl tx))] s.heap := hI
  have w_0 : ∀ w ∈ u_ws RX6 TX6 16, w ∈ wsX6_best := by decide +kernel
  have w_1 := hts (.fieldLink RX6 7 "CableFerryModel" "now" "[I") (by decide +kernel)
  obtain ⟨h50, h50b⟩ := hs.2.2.2.1
  refine lv_iconst (v := nI 0) hx hb dX6_best_0 (by decide +kernel) ?_
  refine lv_istore_n (lv' := [(1, .int (nI 0)), (0, .ref ob)]) hx hb dX6_best_1 rfl hl (by decide) rfl (fun ls hl => ?_)
  refine lv_aload_n hx hb dX6_best_2 rfl (lv_at hl 1 rfl) ?_
  refine va_get (D := G.1) (ci := 6) (v := .ref a1) (C := RX6) (T := TX6) (N := 16) hx hb hts w_0 hown hE.1 hP 0 rfl rfl 0 (by decide) w_1 (fun _ h9 => h9) rfl dX6_best_3 ?_
  refine lv_aload_n hx hb dX6_best_6 rfl (lv_at hl 1 rfl) ?_
  refine va_get (D := G.1) (ci := 6) (v := .ref a1) (C := RX6) (T := TX6) (N := 16) hx hb hts w_0 hown hE.1 hP 0 rfl rfl 0 (by decide) w_1 (fun _ h9 => h9) rfl dX6_best_7 ?_
  refine lv_iconst (v := nI 3) hx hb dX6_best_10 (by decide +kernel) ?_
  refine lv_aload_n hx hb dX6_best_11 rfl (lv_at hl 1 rfl) ?_
  refine va_get (D := G.1) (ci := 6) (v := .ref a1) (C := RX6) (T := TX6) (N := 16) hx hb hts w_0 hown hE.1 hP 0 rfl rfl 0 (by decide) w_1 (fun _ h9 => h9) rfl dX6_best_12 ?_
  refine lv_bipush (v := nI 50) hx hb dX6_best_15 (by decide +kernel) ?_
  refine ialdN (k := 50) hx hb hE.1 hP 1 0 rfl rfl (by omega) (by decide) dX6_best_17 ?_
  refine tI (y := nI (nn f 50)) h50 ?_
  refine lv_bipush (v := nI 24) hx hb dX6_best_18 (by decide +kernel) ?_
  refine iremN hx hb (by omega) (by decide) (by decide) dX6_best_20 ?_
  refine iaddN hx hb dX6_best_21 ?_
  refine ialdN (k := (3 + ((nn f 50) % 24))) hx hb hE.1 hP 1 0 rfl rfl (by omega) (by decide) dX6_best_22 ?_
  refine lv_aload_n hx hb dX6_best_23 rfl (lv_at hl 1 rfl) ?_
  refine va_get (D := G.1) (ci := 6) (v := .ref a1) (C := RX6) (T := TX6) (N := 16) hx hb hts w_0 hown hE.1 hP 0 rfl rfl 0 (by decide) w_1 (fun _ h9 => h9) rfl dX6_best_24 ?_
  refine pcall (st1 := [.int (fLst f), .int (f (3 + ((nn f 50) % 24))), .ref a1]) (va_runS (As := [.ref a1]) (rest := [.int (f (3 + ((nn f 50) % 24))), .ref a1]) ⟨hx, hb, hml, hown, hts⟩ (c_X6_list l G a1 f hs) (va_cwS 1 hts gX6_best_X6_list rfl rfl rfl (by decide +kernel) ⟨Nat.le_of_ble_eq_true rfl, Nat.le_of_ble_eq_true rfl⟩) (PC.preS hE (hP.sub [1] rfl)) rfl rfl hl.1 rfl (lv_room (Nat.le_of_ble_eq_true rfl)) dX6_best_27 ⟨Nat.zero_le _, Nat.zero_le _⟩) rfl ?_
  refine lv_aload_n hx hb dX6_best_30 rfl (lv_at hl 1 rfl) ?_
  refine lv_iconst (v := nI 3) hx hb dX6_best_31 (by decide +kernel) ?_
  refine pcall (st1 := [.int (fCnt f n 3), .int (fLst f), .int (f (3 + ((nn f 50) % 24))), .ref a1]) (va_runV (As := [.int (nI 3)]) (rest := [.int (fLst f), .int (f (3 + ((nn f 50) % 24))), .ref a1]) ⟨hx, hb, hml, hown, hts⟩ (c_X6_counted l G ob a1 a2 a3 a4 a5 f th pa sn tx n len spot kp thr bad lt one two wh hash hs 3 (by omega)) (cwV 1 hts gX6_best_X6_counted rfl rfl rfl (by decide +kernel) ⟨Nat.le_of_ble_eq_true rfl, Nat.le_of_ble_eq_true rfl⟩) (PC.preV hE (va_recv hE.1 hP (ci := 6) (q0 := 0) rfl rfl) hP) rfl rfl hl.1 rfl (lv_room (Nat.le_of_ble_eq_true rfl)) dX6_best_32 ⟨Nat.zero_le _, Nat.zero_le _⟩) rfl ?_
  refine tI (y := fLw f 0 + fLw f 1) (rfl) ?_
  refine pcall (st1 := [.int (fGre f (f (3 + ((nn f 50) % 24))) (fLst f) (fLw f 0 + fLw f 1))]) (va_runS (As := [.ref a1, .int (f (3 + ((nn f 50) % 24))), .int (fLst f), .int (fLw f 0 + fLw f 1)]) (rest := []) ⟨hx, hb, hml, hown, hts⟩ (c_X6_greatest l G a1 f (f (3 + ((nn f 50) % 24))) (fLst f) (fLw f 0 + fLw f 1)) (va_cwS 4 hts gX6_best_X6_greatest rfl rfl rfl (by decide +kernel) ⟨Nat.le_of_ble_eq_true rfl, Nat.le_of_ble_eq_true rfl⟩) (PC.preS hE (hP.sub [1] rfl)) rfl rfl hl.1 rfl (lv_room (Nat.le_of_ble_eq_true rfl)) dX6_best_35 ⟨Nat.zero_le _, Nat.zero_le _⟩) rfl ?_
  refine tI (y := bL f 1) (bL_1.symm) ?_
  refine lv_istore_n (lv' := [(2, .int (bL f 1)), (1, .int (nI 0)), (0, .ref ob)]) hx hb dX6_best_38 rfl hl (by decide) rfl (fun ls hl => ?_)
  refine lv_iconst (v := nI 1) hx hb dX6_best_39 (by decide +kernel) ?_
  refine lv_istore_n (lv' := [(3, .int (nI 1)), (2, .int (bL f 1)), (1, .int (nI 0)), (0, .ref ob)]) hx hb dX6_best_40 rfl hl (by decide) rfl (fun ls hl => ?_)
  refine loopL (σ := Nat × Nat × Int32) (n := 5) (pc1 := 41) (fun (z_ : Nat × Nat × Int32) => match z_ with | (i, b, v) => 24 - i) (fun (z_ : Nat × Nat × Int32) => match z_ with | (i, b, v) => i ≤ 24 ∧ b = bN f i ∧ v = bL f i) (fun (z_ : Nat × Nat × Int32) => match z_ with | (i, b, v) => [(3, .int (nI i)), (2, .int v), (1, .int (nI b)), (0, .ref ob)]) (fun (z_ : Nat × Nat × Int32) => match z_ with | (i, b, v) => []) ?_ (1, 0, bL f 1) _ ⟨by omega, bN_1.symm, rfl⟩ (lv_sub hl [0, 1, 2, 3] rfl)
  rintro ⟨i, b, v⟩ ls hI hl ih41
  have hl : lv_has ls 5 [(3, .int (nI i)), (2, .int v), (1, .int (nI b)), (0, .ref ob)] := hl
  replace hI : i ≤ 24 ∧ b = bN f i ∧ v = bL f i := hI
  obtain ⟨hi, ha, hv⟩ := hI
  refine tS (st' := []) rfl ?_
  refine lv_iload_n hx hb dX6_best_41 rfl (lv_at hl 0 rfl) ?_
  refine lv_bipush (v := nI 24) hx hb dX6_best_42 (by decide +kernel) ?_
  refine icmp_geN (tgt := 118) hx hb (by omega) (by omega) dX6_best_44 (by decide) (fun c44 => ?_) (fun c44 => ?_)
  · skip
    refine lv_iload_n hx hb dX6_best_118 rfl (lv_at hl 2 rfl) ?_
    refine tS (st' := [.int (nI (bN f 24))]) (congrArg (fun z => [Value.int z]) (by rw [ha, show i = 24 by omega])) ?_
    exact W.iret hx hb hr (fun t ht hW => ⟨rfl, ht⟩) (fun _ h => nomatch h) dX6_best_119
  · skip
    refine lv_aload_n hx hb dX6_best_47 rfl (lv_at hl 3 rfl) ?_
    refine va_get (D := G.1) (ci := 6) (v := .ref a1) (C := RX6) (T := TX6) (N := 16) hx hb hts w_0 hown hE.1 hP 0 rfl rfl 0 (by decide) w_1 (fun _ h9 => h9) rfl dX6_best_48 ?_
    refine lv_aload_n hx hb dX6_best_51 rfl (lv_at hl 3 rfl) ?_
    refine va_get (D := G.1) (ci := 6) (v := .ref a1) (C := RX6) (T := TX6) (N := 16) hx hb hts w_0 hown hE.1 hP 0 rfl rfl 0 (by decide) w_1 (fun _ h9 => h9) rfl dX6_best_52 ?_
    refine lv_iconst (v := nI 3) hx hb dX6_best_55 (by decide +kernel) ?_
    refine lv_aload_n hx hb dX6_best_56 rfl (lv_at hl 3 rfl) ?_
    refine va_get (D := G.1) (ci := 6) (v := .ref a1) (C := RX6) (T := TX6) (N := 16) hx hb hts w_0 hown hE.1 hP 0 rfl rfl 0 (by decide) w_1 (fun _ h9 => h9) rfl dX6_best_57 ?_
    refine lv_bipush (v := nI 50) hx hb dX6_best_60 (by decide +kernel) ?_
    refine ialdN (k := 50) hx hb hE.1 hP 1 0 rfl rfl (by omega) (by decide) dX6_best_62 ?_
    refine tI (y := nI (nn f 50)) h50 ?_
    refine lv_iload_n hx hb dX6_best_63 rfl (lv_at hl 0 rfl) ?_
    refine iaddN hx hb dX6_best_64 ?_
    refine lv_bipush (v := nI 24) hx hb dX6_best_65 (by decide +kernel) ?_
    refine iremN hx hb (by omega) (by decide) (by decide) dX6_best_67 ?_
    refine iaddN hx hb dX6_best_68 ?_
    refine ialdN (k := (3 + (((nn f 50) + i) % 24))) hx hb hE.1 hP 1 0 rfl rfl (by omega) (by decide) dX6_best_69 ?_
    refine lv_aload_n hx hb dX6_best_70 rfl (lv_at hl 3 rfl) ?_
    refine va_get (D := G.1) (ci := 6) (v := .ref a1) (C := RX6) (T := TX6) (N := 16) hx hb hts w_0 hown hE.1 hP 0 rfl rfl 0 (by decide) w_1 (fun _ h9 => h9) rfl dX6_best_71 ?_
    refine pcall (st1 := [.int (fLst f), .int (f (3 + (((nn f 50) + i) % 24))), .ref a1]) (va_runS (As := [.ref a1]) (rest := [.int (f (3 + (((nn f 50) + i) % 24))), .ref a1]) ⟨hx, hb, hml, hown, hts⟩ (c_X6_list l G a1 f hs) (va_cwS 1 hts gX6_best_X6_list rfl rfl rfl (by decide +kernel) ⟨Nat.le_of_ble_eq_true rfl, Nat.le_of_ble_eq_true rfl⟩) (PC.preS hE (hP.sub [1] rfl)) rfl rfl hl.1 rfl (lv_room (Nat.le_of_ble_eq_true rfl)) dX6_best_74 ⟨Nat.zero_le _, Nat.zero_le _⟩) rfl ?_
    refine lv_aload_n hx hb dX6_best_77 rfl (lv_at hl 3 rfl) ?_
    refine lv_iconst (v := nI 3) hx hb dX6_best_78 (by decide +kernel) ?_
    refine pcall (st1 := [.int (fCnt f n 3), .int (fLst f), .int (f (3 + (((nn f 50) + i) % 24))), .ref a1]) (va_runV (As := [.int (nI 3)]) (rest := [.int (fLst f), .int (f (3 + (((nn f 50) + i) % 24))), .ref a1]) ⟨hx, hb, hml, hown, hts⟩ (c_X6_counted l G ob a1 a2 a3 a4 a5 f th pa sn tx n len spot kp thr bad lt one two wh hash hs 3 (by omega)) (cwV 1 hts gX6_best_X6_counted rfl rfl rfl (by decide +kernel) ⟨Nat.le_of_ble_eq_true rfl, Nat.le_of_ble_eq_true rfl⟩) (PC.preV hE (va_recv hE.1 hP (ci := 6) (q0 := 0) rfl rfl) hP) rfl rfl hl.1 rfl (lv_room (Nat.le_of_ble_eq_true rfl)) dX6_best_79 ⟨Nat.zero_le _, Nat.zero_le _⟩) rfl ?_
    refine tI (y := fLw f 0 + fLw f 1) (rfl) ?_
    refine pcall (st1 := [.int (fGre f (f (3 + (((nn f 50) + i) % 24))) (fLst f) (fLw f 0 + fLw f 1))]) (va_runS (As := [.ref a1, .int (f (3 + (((nn f 50) + i) % 24))), .int (fLst f), .int (fLw f 0 + fLw f 1)]) (rest := []) ⟨hx, hb, hml, hown, hts⟩ (c_X6_greatest l G a1 f (f (3 + (((nn f 50) + i) % 24))) (fLst f) (fLw f 0 + fLw f 1)) (va_cwS 4 hts gX6_best_X6_greatest rfl rfl rfl (by decide +kernel) ⟨Nat.le_of_ble_eq_true rfl, Nat.le_of_ble_eq_true rfl⟩) (PC.preS hE (hP.sub [1] rfl)) rfl rfl hl.1 rfl (lv_room (Nat.le_of_ble_eq_true rfl)) dX6_best_82 ⟨Nat.zero_le _, Nat.zero_le _⟩) rfl ?_
    refine tI (y := gH f i) (rfl) ?_
    refine lv_istore (lv' := [(4, .int (gH f i)), (3, .int (nI i)), (2, .int v), (1, .int (nI b)), (0, .ref ob)]) hx hb dX6_best_85 hl (by decide) rfl (fun ls hl => ?_)
    refine lv_iload hx hb dX6_best_87 (lv_at hl 0 rfl) ?_
    refine lv_iload_n hx hb dX6_best_89 rfl (lv_at hl 2 rfl) ?_
    refine cutL (σ := Nat) (n := 5) (pc1 := 98) (fun r => r = bN f (i + 1)) (fun r => [(4, .int (gH f i)), (3, .int (nI i)), (2, .int v), (1, .int (nI b)), (0, .ref ob)]) (fun r => [.int (nI r)]) ?_ (fun J98 => ?_)
    · rintro r ls hI hl
      have hl : lv_has ls 5 [(4, .int (gH f i)), (3, .int (nI i)), (2, .int v), (1, .int (nI b)), (0, .ref ob)] := hl
      replace hI : r = bN f (i + 1) := hI
      have hm := hI
      refine tS (st' := [.int (nI r)]) rfl ?_
      refine lv_istore_n (lv' := [(1, .int (nI r)), (4, .int (gH f i)), (3, .int (nI i)), (2, .int v), (0, .ref ob)]) hx hb dX6_best_98 rfl hl (by decide) rfl (fun ls hl => ?_)
      refine lv_iload hx hb dX6_best_99 (lv_at hl 1 rfl) ?_
      refine lv_iload_n hx hb dX6_best_101 rfl (lv_at hl 3 rfl) ?_
      refine cutL (σ := Int32) (n := 5) (pc1 := 111) (fun r9 => r9 = bL f (i + 1)) (fun r9 => [(1, .int (nI r)), (4, .int (gH f i)), (3, .int (nI i)), (2, .int v), (0, .ref ob)]) (fun r9 => [.int r9]) ?_ (fun J111 => ?_)
      · rintro r9 ls hI hl
        have hl : lv_has ls 5 [(1, .int (nI r)), (4, .int (gH f i)), (3, .int (nI i)), (2, .int v), (0, .ref ob)] := hl
        replace hI : r9 = bL f (i + 1) := hI
        have hm2 := hI
        refine tS (st' := [.int r9]) rfl ?_
        refine lv_istore_n (lv' := [(2, .int r9), (1, .int (nI r)), (4, .int (gH f i)), (3, .int (nI i)), (0, .ref ob)]) hx hb dX6_best_111 rfl hl (by decide) rfl (fun ls hl => ?_)
        refine lv_iinc (v := nI (i + 1)) (lv' := [(3, .int (nI (i + 1))), (2, .int r9), (1, .int (nI r)), (4, .int (gH f i)), (0, .ref ob)]) hx hb dX6_best_112 hl (k := 3) rfl (nI_inc1 _) (by decide) rfl (fun ls hl => ?_)
        refine lv_goto (tgt := 41) hx hb dX6_best_115 (by decide) ?_
        exact ih41 ((i + 1), r, r9) _ ⟨by omega, hm, hm2⟩ (lv_sub hl [0, 1, 2, 4] rfl) (by (try dsimp only); omega)
      · skip
        refine lv_icmp_ge (tgt := 110) hx hb dX6_best_102 (by decide) (fun c102 => ?_) (fun c102 => ?_)
        · skip
          refine lv_iload_n hx hb dX6_best_110 rfl (lv_at hl 3 rfl) ?_
          exact J111 v _ (by show _ = (if _ ≤ _ then _ else _); rw [← hv]; simp [c102]) (lv_sub hl [0, 1, 2, 3, 4] rfl)
        · skip
          refine lv_iload hx hb dX6_best_105 (lv_at hl 1 rfl) ?_
          refine lv_goto (tgt := 111) hx hb dX6_best_107 (by decide) ?_
          exact J111 (gH f i) _ (by show _ = (if _ ≤ _ then _ else _); rw [← hv]; simp [c102]) (lv_sub hl [0, 1, 2, 3, 4] rfl)
    · skip
      refine lv_icmp_ge (tgt := 97) hx hb dX6_best_90 (by decide) (fun c90 => ?_) (fun c90 => ?_)
      · skip
        refine lv_iload_n hx hb dX6_best_97 rfl (lv_at hl 3 rfl) ?_
        exact J98 b _ (by show _ = (if _ ≤ _ then _ else _); rw [← hv, ← ha]; simp [c90]) (lv_sub hl [0, 1, 2, 3, 4] rfl)
      · skip
        refine lv_iload_n hx hb dX6_best_93 rfl (lv_at hl 1 rfl) ?_
        refine lv_goto (tgt := 98) hx hb dX6_best_94 (by decide) ?_
        exact J98 i _ (by show _ = (if _ ≤ _ then _ else _); rw [← hv, ← ha]; simp [c90]) (lv_sub hl [0, 1, 2, 3, 4] rfl)
set_option maxHeartbeats 4000000 in
set_option maxRecDepth 100000 in
theorem c_X6_listBy (l : Launch) (G : eG) (ob a1 a2 a3 a4 a5 : Nat) (f th pa sn tx : Nat → Int32) (n len spot : Nat) (kp thr bad lt one two wh : Int32) (hash : Int64) (hs : Shp f) (v st : Nat) (hv : v ≤ 8) (hvw : v ≤ nn f (57 + (11 * nn f 51))) (hst : st < 256) : Met l yX6_listBy wsX6_listBy ({ frames := 2, cells := 0, slots := 0, locals := 46 }) (PC [.ref ob, .int (nI v), .int (nI st)] G (fun H => va_P G.1 vwCl [(ob, .inr (6, [.ref a1, .ref a2, .ref a3, .int (nI n), .ref a4, .int kp, .ref a5, .int (nI len), .int thr, .int (nI spot), .int bad, .int lt, .int one, .int two, .int wh, .long hash])), (a1, .inl (G.2.1, 97, .inl f)), (a2, .inl (G.2.1, 97, .inl th)), (a3, .inl (G.2.1, 582, .inl pa)), (a4, .inl (G.2.1, 97, .inl sn)), (a5, .inl (G.2.1, 60, .inl tx))] H)) (PQ (some (.int (lbR f v st)))) 0 0 noA := by
  refine ofB (cc := cX6_listBy) (maxL := 9) (ret := (some .int)) (by decide) rfl (Nat.le_of_ble_eq_true rfl) ?_
  intro p e s m below meth c hx hb hr hlocks hml hown hin hts hE hI ls hl
  replace hown : s.vm.findClass RX6 = some m.cls := hown
  have hl : lv_has ls 9 [(0, .ref ob), (1, .int (nI v)), (2, .int (nI st))] := hl
  have hP : va_P G.1 vwCl [(ob, .inr (6, [.ref a1, .ref a2, .ref a3, .int (nI n), .ref a4, .int kp, .ref a5, .int (nI len), .int thr, .int (nI spot), .int bad, .int lt, .int one, .int two, .int wh, .long hash])), (a1, .inl (G.2.1, 97, .inl f)), (a2, .inl (G.2.1, 97, .inl th)), (a3, .inl (G.2.1, 582, .inl pa)), (a4, .inl (G.2.1, 97, .inl sn)), (a5, .inl (G.2.1, 60, .inl tx))] s.heap := hI
  have w_0 : ∀ w ∈ u_ws RX6 TX6 16, w ∈ wsX6_listBy := by decide +kernel
  have w_1 := hts (.fieldLink RX6 7 "CableFerryModel" "now" "[I") (by decide +kernel)
  obtain ⟨h51, h51b⟩ := hs.2.2.1
  obtain ⟨hn0, hn0b⟩ := hs.1 0 (by omega)
  obtain ⟨hn1, hn1b⟩ := hs.1 1 (by omega)
  have hwb := (hs.2.1 _ h51b).2
  replace hn0b : nn f 79 ≤ 4 := hn0b
  replace hn1b : nn f 88 ≤ 4 := hn1b
  have hlc := lbC_le (s := st) (k := v)
  refine lv_aload_n hx hb dX6_listBy_0 rfl (lv_at hl 0 rfl) ?_
  refine va_get (D := G.1) (ci := 6) (v := .ref a1) (C := RX6) (T := TX6) (N := 16) hx hb hts w_0 hown hE.1 hP 0 rfl rfl 0 (by decide) w_1 (fun _ h9 => h9) rfl dX6_listBy_1 ?_
  refine lv_iconst (v := nI 0) hx hb dX6_listBy_4 (by decide +kernel) ?_
  refine pcall (st1 := [.int (fLw f 0)]) (va_runS (As := [.ref a1, .int (nI 0)]) (rest := []) ⟨hx, hb, hml, hown, hts⟩ (c_X6_laneWeight l G a1 f hs 0 (by omega)) (va_cwS 2 hts gX6_listBy_X6_laneWeight rfl rfl rfl (by decide +kernel) ⟨Nat.le_of_ble_eq_true rfl, Nat.le_of_ble_eq_true rfl⟩) (PC.preS hE (hP.sub [1] rfl)) rfl rfl hl.1 rfl (lv_room (Nat.le_of_ble_eq_true rfl)) dX6_listBy_5 ⟨Nat.zero_le _, Nat.zero_le _⟩) rfl ?_
  refine lv_aload_n hx hb dX6_listBy_8 rfl (lv_at hl 0 rfl) ?_
  refine va_get (D := G.1) (ci := 6) (v := .ref a1) (C := RX6) (T := TX6) (N := 16) hx hb hts w_0 hown hE.1 hP 0 rfl rfl 0 (by decide) w_1 (fun _ h9 => h9) rfl dX6_listBy_9 ?_
  refine lv_iconst (v := nI 1) hx hb dX6_listBy_12 (by decide +kernel) ?_
  refine pcall (st1 := [.int (fLw f 1), .int (fLw f 0)]) (va_runS (As := [.ref a1, .int (nI 1)]) (rest := [.int (fLw f 0)]) ⟨hx, hb, hml, hown, hts⟩ (c_X6_laneWeight l G a1 f hs 1 (by omega)) (va_cwS 2 hts gX6_listBy_X6_laneWeight rfl rfl rfl (by decide +kernel) ⟨Nat.le_of_ble_eq_true rfl, Nat.le_of_ble_eq_true rfl⟩) (PC.preS hE (hP.sub [1] rfl)) rfl rfl hl.1 rfl (lv_room (Nat.le_of_ble_eq_true rfl)) dX6_listBy_13 ⟨Nat.zero_le _, Nat.zero_le _⟩) rfl ?_
  refine lv_isub hx hb dX6_listBy_16 ?_
  refine lv_istore_n (lv' := [(3, .int ((fLw f 0) - (fLw f 1))), (0, .ref ob), (1, .int (nI v)), (2, .int (nI st))]) hx hb dX6_listBy_17 rfl hl (by decide) rfl (fun ls hl => ?_)
  refine lv_aload_n hx hb dX6_listBy_18 rfl (lv_at hl 1 rfl) ?_
  refine va_get (D := G.1) (ci := 6) (v := .ref a1) (C := RX6) (T := TX6) (N := 16) hx hb hts w_0 hown hE.1 hP 0 rfl rfl 0 (by decide) w_1 (fun _ h9 => h9) rfl dX6_listBy_19 ?_
  refine lv_iconst (v := nI 0) hx hb dX6_listBy_22 (by decide +kernel) ?_
  refine pcall (st1 := [.int (f (79 + (9 * 0)))]) (va_runS (As := [.ref a1, .int (nI 0)]) (rest := []) ⟨hx, hb, hml, hown, hts⟩ (c_X6_onLane l G a1 f 0 (by omega)) (va_cwS 2 hts gX6_listBy_X6_onLane rfl rfl rfl (by decide +kernel) ⟨Nat.le_of_ble_eq_true rfl, Nat.le_of_ble_eq_true rfl⟩) (PC.preS hE (hP.sub [1] rfl)) rfl rfl hl.1 rfl (lv_room (Nat.le_of_ble_eq_true rfl)) dX6_listBy_23 ⟨Nat.zero_le _, Nat.zero_le _⟩) rfl ?_
  refine tI (y := nI (nn f (79 + 9 * 0))) (hn0) ?_
  refine lv_istore (lv' := [(4, .int (nI (nn f (79 + 9 * 0)))), (3, .int ((fLw f 0) - (fLw f 1))), (0, .ref ob), (1, .int (nI v)), (2, .int (nI st))]) hx hb dX6_listBy_26 hl (by decide) rfl (fun ls hl => ?_)
  refine lv_aload_n hx hb dX6_listBy_28 rfl (lv_at hl 2 rfl) ?_
  refine va_get (D := G.1) (ci := 6) (v := .ref a1) (C := RX6) (T := TX6) (N := 16) hx hb hts w_0 hown hE.1 hP 0 rfl rfl 0 (by decide) w_1 (fun _ h9 => h9) rfl dX6_listBy_29 ?_
  refine lv_iconst (v := nI 1) hx hb dX6_listBy_32 (by decide +kernel) ?_
  refine pcall (st1 := [.int (f (79 + (9 * 1)))]) (va_runS (As := [.ref a1, .int (nI 1)]) (rest := []) ⟨hx, hb, hml, hown, hts⟩ (c_X6_onLane l G a1 f 1 (by omega)) (va_cwS 2 hts gX6_listBy_X6_onLane rfl rfl rfl (by decide +kernel) ⟨Nat.le_of_ble_eq_true rfl, Nat.le_of_ble_eq_true rfl⟩) (PC.preS hE (hP.sub [1] rfl)) rfl rfl hl.1 rfl (lv_room (Nat.le_of_ble_eq_true rfl)) dX6_listBy_33 ⟨Nat.zero_le _, Nat.zero_le _⟩) rfl ?_
  refine tI (y := nI (nn f (79 + 9 * 1))) (hn1) ?_
  refine lv_istore (lv' := [(5, .int (nI (nn f (79 + 9 * 1)))), (4, .int (nI (nn f (79 + 9 * 0)))), (3, .int ((fLw f 0) - (fLw f 1))), (0, .ref ob), (1, .int (nI v)), (2, .int (nI st))]) hx hb dX6_listBy_36 hl (by decide) rfl (fun ls hl => ?_)
  refine lv_iconst (v := nI 0) hx hb dX6_listBy_38 (by decide +kernel) ?_
  refine lv_istore (lv' := [(6, .int (nI 0)), (5, .int (nI (nn f (79 + 9 * 1)))), (4, .int (nI (nn f (79 + 9 * 0)))), (3, .int ((fLw f 0) - (fLw f 1))), (0, .ref ob), (1, .int (nI v)), (2, .int (nI st))]) hx hb dX6_listBy_39 hl (by decide) rfl (fun ls hl => ?_)
  refine loopL (σ := Nat × Int32 × Nat × Nat) (n := 9) (pc1 := 41) (fun (z_ : Nat × Int32 × Nat × Nat) => match z_ with | (i, x, y, z) => v - i) (fun (z_ : Nat × Int32 × Nat × Nat) => match z_ with | (i, x, y, z) => i ≤ v ∧ x = lbA f st i ∧ y = nn f 79 + lbC st i ∧ z = nn f 88 + (i - lbC st i)) (fun (z_ : Nat × Int32 × Nat × Nat) => match z_ with | (i, x, y, z) => [(6, .int (nI i)), (5, .int (nI z)), (4, .int (nI y)), (3, .int x), (0, .ref ob), (1, .int (nI v)), (2, .int (nI st))]) (fun (z_ : Nat × Int32 × Nat × Nat) => match z_ with | (i, x, y, z) => []) ?_ (0, (fLw f 0) - (fLw f 1), nn f (79 + 9 * 0), nn f (79 + 9 * 1)) _ ⟨Nat.zero_le _, rfl, rfl, rfl⟩ (lv_sub hl [0, 1, 2, 3, 4, 5, 6] rfl)
  rintro ⟨i, x, y, z⟩ ls hI hl ih41
  have hl : lv_has ls 9 [(6, .int (nI i)), (5, .int (nI z)), (4, .int (nI y)), (3, .int x), (0, .ref ob), (1, .int (nI v)), (2, .int (nI st))] := hl
  replace hI : i ≤ v ∧ x = lbA f st i ∧ y = nn f 79 + lbC st i ∧ z = nn f 88 + (i - lbC st i) := hI
  obtain ⟨hi, hx1, hy1, hz1⟩ := hI
  have hli := lbC_le (s := st) (k := i)
  refine tS (st' := []) rfl ?_
  refine lv_iload hx hb dX6_listBy_41 (lv_at hl 0 rfl) ?_
  refine lv_iload_n hx hb dX6_listBy_43 rfl (lv_at hl 5 rfl) ?_
  refine icmp_geN (tgt := 134) hx hb (by omega) (by omega) dX6_listBy_44 (by decide) (fun c44 => ?_) (fun c44 => ?_)
  · skip
    have hj : i = v := by omega
    rw [hj] at hx1 hy1 hz1
    refine cutL (σ := Int32) (n := 9) (pc1 := 154) (fun r => r = lbR f v st) (fun r => [(6, .int (nI i)), (5, .int (nI z)), (4, .int (nI y)), (3, .int x), (0, .ref ob), (1, .int (nI v)), (2, .int (nI st))]) (fun r => [.int r]) ?_ (fun J154 => ?_)
    · rintro r ls hI hl
      replace hI : r = lbR f v st := hI
      subst hI
      have hl : lv_has ls 9 [(6, .int (nI i)), (5, .int (nI z)), (4, .int (nI y)), (3, .int x), (0, .ref ob), (1, .int (nI v)), (2, .int (nI st))] := hl
      refine tS (st' := [.int (lbR f v st)]) rfl ?_
      exact W.iret hx hb hr (fun t ht hW => ⟨rfl, ht⟩) (fun _ h => nomatch h) dX6_listBy_154
    · skip
      refine lv_iload hx hb dX6_listBy_134 (lv_at hl 2 rfl) ?_
      refine lv_iconst (v := nI 4) hx hb dX6_listBy_136 (by decide +kernel) ?_
      refine icmp_gtN (tgt := 146) hx hb (by omega) (by omega) dX6_listBy_137 (by decide) (fun c137 => ?_) (fun c137 => ?_)
      · skip
        refine lv_iconst (v := -1) hx hb dX6_listBy_146 (by decide +kernel) ?_
        refine lv_goto (tgt := 154) hx hb dX6_listBy_147 (by decide) ?_
        exact J154 (-1) _ (by unfold lbR; rw [if_neg (by omega)]) (lv_sub hl [0, 1, 2, 3, 4, 5, 6] rfl)
      · skip
        refine lv_iload hx hb dX6_listBy_140 (lv_at hl 1 rfl) ?_
        refine lv_iconst (v := nI 4) hx hb dX6_listBy_142 (by decide +kernel) ?_
        refine icmp_leN (tgt := 150) hx hb (by omega) (by omega) dX6_listBy_143 (by decide) (fun c143 => ?_) (fun c143 => ?_)
        · skip
          refine lv_iload_n hx hb dX6_listBy_150 rfl (lv_at hl 3 rfl) ?_
          refine pcall (st1 := [.int (absI x)]) (va_runS (As := [.int x]) (rest := []) ⟨hx, hb, hml, hown, hts⟩ (c_X6_size l G x) (va_cwS 1 hts gX6_listBy_X6_size rfl rfl rfl (by decide +kernel) ⟨Nat.le_of_ble_eq_true rfl, Nat.le_of_ble_eq_true rfl⟩) (PC.preS hE P_nil) rfl rfl hl.1 rfl (lv_room (Nat.le_of_ble_eq_true rfl)) dX6_listBy_151 ⟨Nat.zero_le _, Nat.zero_le _⟩) rfl ?_
          exact J154 (absI x) _ (by unfold lbR; rw [if_pos (by omega), hx1]) (lv_sub hl [0, 1, 2, 3, 4, 5, 6] rfl)
        · skip
          refine lv_iconst (v := -1) hx hb dX6_listBy_146 (by decide +kernel) ?_
          refine lv_goto (tgt := 154) hx hb dX6_listBy_147 (by decide) ?_
          exact J154 (-1) _ (by unfold lbR; rw [if_neg (by omega)]) (lv_sub hl [0, 1, 2, 3, 4, 5, 6] rfl)
  · skip
    refine lv_iload_n hx hb dX6_listBy_47 rfl (lv_at hl 6 rfl) ?_
    refine lv_iload hx hb dX6_listBy_48 (lv_at hl 0 rfl) ?_
    refine lv_ishr hx hb dX6_listBy_50 ?_
    refine lv_iconst (v := nI 1) hx hb dX6_listBy_51 (by decide +kernel) ?_
    refine lv_iand hx hb dX6_listBy_52 ?_
    refine tI (y := nI (bitL st i)) (bit_v i (by omega) st hst) ?_
    refine lv_iconst (v := nI 1) hx hb dX6_listBy_53 (by decide +kernel) ?_
    have hbl := bitL_lt (s := st) (k := i)
    refine cutL (σ := Nat) (n := 9) (pc1 := 62) (fun r => r = bitL st i) (fun r => [(6, .int (nI i)), (5, .int (nI z)), (4, .int (nI y)), (3, .int x), (0, .ref ob), (1, .int (nI v)), (2, .int (nI st))]) (fun r => [.int (nI r)]) ?_ (fun J62 => ?_)
    · rintro r ls hI hl
      replace hI : r = bitL st i := hI
      subst hI
      have hl : lv_has ls 9 [(6, .int (nI i)), (5, .int (nI z)), (4, .int (nI y)), (3, .int x), (0, .ref ob), (1, .int (nI v)), (2, .int (nI st))] := hl
      refine tS (st' := [.int (nI (bitL st i))]) rfl ?_
      refine lv_istore (lv' := [(7, .int (nI (bitL st i))), (6, .int (nI i)), (5, .int (nI z)), (4, .int (nI y)), (3, .int x), (0, .ref ob), (1, .int (nI v)), (2, .int (nI st))]) hx hb dX6_listBy_62 hl (by decide) rfl (fun ls hl => ?_)
      refine lv_aload_n hx hb dX6_listBy_64 rfl (lv_at hl 5 rfl) ?_
      refine va_get (D := G.1) (ci := 6) (v := .ref a1) (C := RX6) (T := TX6) (N := 16) hx hb hts w_0 hown hE.1 hP 0 rfl rfl 0 (by decide) w_1 (fun _ h9 => h9) rfl dX6_listBy_65 ?_
      refine lv_aload_n hx hb dX6_listBy_68 rfl (lv_at hl 5 rfl) ?_
      refine va_get (D := G.1) (ci := 6) (v := .ref a1) (C := RX6) (T := TX6) (N := 16) hx hb hts w_0 hown hE.1 hP 0 rfl rfl 0 (by decide) w_1 (fun _ h9 => h9) rfl dX6_listBy_69 ?_
      refine lv_bipush (v := nI 51) hx hb dX6_listBy_72 (by decide +kernel) ?_
      refine ialdN (k := 51) hx hb hE.1 hP 1 0 rfl rfl (by omega) (by decide) dX6_listBy_74 ?_
      refine tI (y := nI (nn f 51)) h51 ?_
      refine lv_iload hx hb dX6_listBy_75 (lv_at hl 1 rfl) ?_
      refine pcall (st1 := [.int (f (((57 + (11 * (nn f 51))) + 1) + i))]) (va_runS (As := [.ref a1, .int (nI (nn f 51)), .int (nI i)]) (rest := []) ⟨hx, hb, hml, hown, hts⟩ (c_X6_weightOf l G a1 f (nn f 51) i (by omega) (by omega)) (va_cwS 3 hts gX6_listBy_X6_weightOf rfl rfl rfl (by decide +kernel) ⟨Nat.le_of_ble_eq_true rfl, Nat.le_of_ble_eq_true rfl⟩) (PC.preS hE (hP.sub [1] rfl)) rfl rfl hl.1 rfl (lv_room (Nat.le_of_ble_eq_true rfl)) dX6_listBy_77 ⟨Nat.zero_le _, Nat.zero_le _⟩) rfl ?_
      refine lv_istore (lv' := [(8, .int (f (((57 + (11 * (nn f 51))) + 1) + i))), (7, .int (nI (bitL st i))), (6, .int (nI i)), (5, .int (nI z)), (4, .int (nI y)), (3, .int x), (0, .ref ob), (1, .int (nI v)), (2, .int (nI st))]) hx hb dX6_listBy_80 hl (by decide) rfl (fun ls hl => ?_)
      refine lv_iload_n hx hb dX6_listBy_82 rfl (lv_at hl 5 rfl) ?_
      refine lv_iload hx hb dX6_listBy_83 (lv_at hl 1 rfl) ?_
      refine cutL (σ := Int32) (n := 9) (pc1 := 96) (fun r => r = if bitL st i = 1 then f (57 + 11 * nn f 51 + 1 + i) else -f (57 + 11 * nn f 51 + 1 + i)) (fun r => [(8, .int (f (((57 + (11 * (nn f 51))) + 1) + i))), (7, .int (nI (bitL st i))), (6, .int (nI i)), (5, .int (nI z)), (4, .int (nI y)), (3, .int x), (0, .ref ob), (1, .int (nI v)), (2, .int (nI st))]) (fun r => [.int r, .int x]) ?_ (fun J96 => ?_)
      · rintro r ls hI hl
        have hl : lv_has ls 9 [(8, .int (f (((57 + (11 * (nn f 51))) + 1) + i))), (7, .int (nI (bitL st i))), (6, .int (nI i)), (5, .int (nI z)), (4, .int (nI y)), (3, .int x), (0, .ref ob), (1, .int (nI v)), (2, .int (nI st))] := hl
        replace hI : r = if bitL st i = 1 then f (57 + 11 * nn f 51 + 1 + i) else -f (57 + 11 * nn f 51 + 1 + i) := hI
        have hm := hI
        refine tS (st' := [.int r, .int x]) rfl ?_
        refine lv_iadd hx hb dX6_listBy_96 ?_
        refine lv_istore_n (lv' := [(3, .int (x + r)), (8, .int (f (((57 + (11 * (nn f 51))) + 1) + i))), (7, .int (nI (bitL st i))), (6, .int (nI i)), (5, .int (nI z)), (4, .int (nI y)), (0, .ref ob), (1, .int (nI v)), (2, .int (nI st))]) hx hb dX6_listBy_97 rfl hl (by decide) rfl (fun ls hl => ?_)
        refine lv_iload hx hb dX6_listBy_98 (lv_at hl 5 rfl) ?_
        refine lv_iload hx hb dX6_listBy_100 (lv_at hl 2 rfl) ?_
        refine cutL (σ := Nat) (n := 9) (pc1 := 110) (fun r2 => r2 = if bitL st i = 1 then 1 else 0) (fun r2 => [(3, .int (x + r)), (8, .int (f (((57 + (11 * (nn f 51))) + 1) + i))), (7, .int (nI (bitL st i))), (6, .int (nI i)), (5, .int (nI z)), (4, .int (nI y)), (0, .ref ob), (1, .int (nI v)), (2, .int (nI st))]) (fun r2 => [.int (nI r2), .int (nI y)]) ?_ (fun J110 => ?_)
        · rintro r2 ls hI hl
          have hl : lv_has ls 9 [(3, .int (x + r)), (8, .int (f (((57 + (11 * (nn f 51))) + 1) + i))), (7, .int (nI (bitL st i))), (6, .int (nI i)), (5, .int (nI z)), (4, .int (nI y)), (0, .ref ob), (1, .int (nI v)), (2, .int (nI st))] := hl
          replace hI : r2 = if bitL st i = 1 then 1 else 0 := hI
          have hm2 := hI
          refine tS (st' := [.int (nI r2), .int (nI y)]) rfl ?_
          refine iaddN hx hb dX6_listBy_110 ?_
          refine lv_istore (lv' := [(4, .int (nI (y + r2))), (3, .int (x + r)), (8, .int (f (((57 + (11 * (nn f 51))) + 1) + i))), (7, .int (nI (bitL st i))), (6, .int (nI i)), (5, .int (nI z)), (0, .ref ob), (1, .int (nI v)), (2, .int (nI st))]) hx hb dX6_listBy_111 hl (by decide) rfl (fun ls hl => ?_)
          refine lv_iload hx hb dX6_listBy_113 (lv_at hl 5 rfl) ?_
          refine lv_iload hx hb dX6_listBy_115 (lv_at hl 3 rfl) ?_
          refine cutL (σ := Nat) (n := 9) (pc1 := 125) (fun r3 => r3 = if bitL st i = 1 then 0 else 1) (fun r3 => [(4, .int (nI (y + r2))), (3, .int (x + r)), (8, .int (f (((57 + (11 * (nn f 51))) + 1) + i))), (7, .int (nI (bitL st i))), (6, .int (nI i)), (5, .int (nI z)), (0, .ref ob), (1, .int (nI v)), (2, .int (nI st))]) (fun r3 => [.int (nI r3), .int (nI z)]) ?_ (fun J125 => ?_)
          · rintro r3 ls hI hl
            have hl : lv_has ls 9 [(4, .int (nI (y + r2))), (3, .int (x + r)), (8, .int (f (((57 + (11 * (nn f 51))) + 1) + i))), (7, .int (nI (bitL st i))), (6, .int (nI i)), (5, .int (nI z)), (0, .ref ob), (1, .int (nI v)), (2, .int (nI st))] := hl
            replace hI : r3 = if bitL st i = 1 then 0 else 1 := hI
            have hm3 := hI
            refine tS (st' := [.int (nI r3), .int (nI z)]) rfl ?_
            refine iaddN hx hb dX6_listBy_125 ?_
            refine lv_istore (lv' := [(5, .int (nI (z + r3))), (4, .int (nI (y + r2))), (3, .int (x + r)), (8, .int (f (((57 + (11 * (nn f 51))) + 1) + i))), (7, .int (nI (bitL st i))), (6, .int (nI i)), (0, .ref ob), (1, .int (nI v)), (2, .int (nI st))]) hx hb dX6_listBy_126 hl (by decide) rfl (fun ls hl => ?_)
            refine lv_iinc (v := nI (i + 1)) (lv' := [(6, .int (nI (i + 1))), (5, .int (nI (z + r3))), (4, .int (nI (y + r2))), (3, .int (x + r)), (8, .int (f (((57 + (11 * (nn f 51))) + 1) + i))), (7, .int (nI (bitL st i))), (0, .ref ob), (1, .int (nI v)), (2, .int (nI st))]) hx hb dX6_listBy_128 hl (k := 5) rfl (nI_inc1 _) (by decide) rfl (fun ls hl => ?_)
            refine lv_goto (tgt := 41) hx hb dX6_listBy_131 (by decide) ?_
            exact ih41 ((i + 1), (x + r), (y + r2), (z + r3)) _ ⟨by omega, by rw [hx1, hm]; rfl, by rw [hy1, hm2]; show _ = nn f 79 + (lbC st i + _); omega, by rw [hz1, hm3]; show _ = nn f 88 + (i + 1 - (lbC st i + _)); split <;> omega⟩ (lv_sub hl [0, 1, 2, 3, 6, 7, 8] rfl) (by (try dsimp only); omega)
          · skip
            refine if_eqN (tgt := 124) hx hb (by omega) dX6_listBy_117 (by decide) (fun c117 => ?_) (fun c117 => ?_)
            · skip
              refine lv_iconst (v := nI 1) hx hb dX6_listBy_124 (by decide +kernel) ?_
              exact J125 1 _ (by split <;> omega) (lv_sub hl [0, 1, 2, 3, 4, 5, 6, 7, 8] rfl)
            · skip
              refine lv_iconst (v := nI 0) hx hb dX6_listBy_120 (by decide +kernel) ?_
              refine lv_goto (tgt := 125) hx hb dX6_listBy_121 (by decide) ?_
              exact J125 0 _ (by split <;> omega) (lv_sub hl [0, 1, 2, 3, 4, 5, 6, 7, 8] rfl)
        · skip
          refine if_eqN (tgt := 109) hx hb (by omega) dX6_listBy_102 (by decide) (fun c102 => ?_) (fun c102 => ?_)
          · skip
            refine lv_iconst (v := nI 0) hx hb dX6_listBy_109 (by decide +kernel) ?_
            exact J110 0 _ (by split <;> omega) (lv_sub hl [0, 1, 2, 3, 4, 5, 6, 7, 8] rfl)
          · skip
            refine lv_iconst (v := nI 1) hx hb dX6_listBy_105 (by decide +kernel) ?_
            refine lv_goto (tgt := 110) hx hb dX6_listBy_106 (by decide) ?_
            exact J110 1 _ (by split <;> omega) (lv_sub hl [0, 1, 2, 3, 4, 5, 6, 7, 8] rfl)
      · skip
        refine if_eqN (tgt := 93) hx hb (by omega) dX6_listBy_85 (by decide) (fun c85 => ?_) (fun c85 => ?_)
        · skip
          refine lv_iload hx hb dX6_listBy_93 (lv_at hl 0 rfl) ?_
          refine lv_ineg hx hb dX6_listBy_95 ?_
          exact J96 (-(f (((57 + (11 * (nn f 51))) + 1) + i))) _ (by rw [if_neg (by omega)]) (lv_sub hl [0, 1, 2, 3, 4, 5, 6, 7, 8] rfl)
        · skip
          refine lv_iload hx hb dX6_listBy_88 (lv_at hl 0 rfl) ?_
          refine lv_goto (tgt := 96) hx hb dX6_listBy_90 (by decide) ?_
          exact J96 (f (((57 + (11 * (nn f 51))) + 1) + i)) _ (by rw [if_pos (by omega)]) (lv_sub hl [0, 1, 2, 3, 4, 5, 6, 7, 8] rfl)
    · skip
      refine icmp_neN (tgt := 61) hx hb (by omega) (by omega) dX6_listBy_54 (by decide) (fun c54 => ?_) (fun c54 => ?_)
      · skip
        refine lv_iconst (v := nI 0) hx hb dX6_listBy_61 (by decide +kernel) ?_
        exact J62 0 _ (by omega) (lv_sub hl [0, 1, 2, 3, 4, 5, 6] rfl)
      · skip
        refine lv_iconst (v := nI 1) hx hb dX6_listBy_57 (by decide +kernel) ?_
        refine lv_goto (tgt := 62) hx hb dX6_listBy_58 (by decide) ?_
        exact J62 1 _ (by omega) (lv_sub hl [0, 1, 2, 3, 4, 5, 6] rfl)
set_option maxHeartbeats 4000000 in
set_option maxRecDepth 100000 in
theorem c_X6_least (l : Launch) (G : eG) (ob a1 a2 a3 a4 a5 : Nat) (f th pa sn tx : Nat → Int32) (n len spot : Nat) (kp thr bad lt one two wh : Int32) (hash : Int64) (hs : Shp f) (v : Nat) (hv : v ≤ 8) : Met l yX6_least wsX6_least ({ frames := 3, cells := 0, slots := 0, locals := 74 }) (PC [.ref ob, .int (nI v)] G (fun H => va_P G.1 vwCl [(ob, .inr (6, [.ref a1, .ref a2, .ref a3, .int (nI n), .ref a4, .int kp, .ref a5, .int (nI len), .int thr, .int (nI spot), .int bad, .int lt, .int one, .int two, .int wh, .long hash])), (a1, .inl (G.2.1, 97, .inl f)), (a2, .inl (G.2.1, 97, .inl th)), (a3, .inl (G.2.1, 582, .inl pa)), (a4, .inl (G.2.1, 97, .inl sn)), (a5, .inl (G.2.1, 60, .inl tx))] H)) (PQ (some (.int (fLs f v)))) 0 0 noA := by
  refine ofB (cc := cX6_least) (maxL := 5) (ret := (some .int)) (by decide) rfl (Nat.le_of_ble_eq_true rfl) ?_
  intro p e s m below meth c hx hb hr hlocks hml hown hin hts hE hI ls hl
  replace hown : s.vm.findClass RX6 = some m.cls := hown
  have hl : lv_has ls 5 [(0, .ref ob), (1, .int (nI v))] := hl
  have hP : va_P G.1 vwCl [(ob, .inr (6, [.ref a1, .ref a2, .ref a3, .int (nI n), .ref a4, .int kp, .ref a5, .int (nI len), .int thr, .int (nI spot), .int bad, .int lt, .int one, .int two, .int wh, .long hash])), (a1, .inl (G.2.1, 97, .inl f)), (a2, .inl (G.2.1, 97, .inl th)), (a3, .inl (G.2.1, 582, .inl pa)), (a4, .inl (G.2.1, 97, .inl sn)), (a5, .inl (G.2.1, 60, .inl tx))] s.heap := hI
  have w_0 : ∀ w ∈ u_ws RX6 TX6 16, w ∈ wsX6_least := by decide +kernel
  have w_1 := hts (.fieldLink RX6 7 "CableFerryModel" "now" "[I") (by decide +kernel)
  obtain ⟨h51, h51b⟩ := hs.2.2.1
  obtain ⟨hq, hqb⟩ := hs.2.1 _ h51b
  obtain ⟨hp1, hp2⟩ := pow9 hv
  refine lv_iconst (v := -1) hx hb dX6_least_0 (by decide +kernel) ?_
  refine lv_istore_n (lv' := [(2, .int (-1)), (0, .ref ob), (1, .int (nI v))]) hx hb dX6_least_1 rfl hl (by decide) rfl (fun ls hl => ?_)
  refine lv_iconst (v := nI 0) hx hb dX6_least_2 (by decide +kernel) ?_
  refine lv_istore_n (lv' := [(3, .int (nI 0)), (2, .int (-1)), (0, .ref ob), (1, .int (nI v))]) hx hb dX6_least_3 rfl hl (by decide) rfl (fun ls hl => ?_)
  refine loopL (σ := Nat × Int32) (n := 5) (pc1 := 4) (fun (z_ : Nat × Int32) => match z_ with | (s2, b) => 2 ^ v - s2) (fun (z_ : Nat × Int32) => match z_ with | (s2, b) => s2 ≤ 2 ^ v ∧ b = lsB f v s2 ∧ (s2 = 0 ∨ v ≤ nn f (57 + (11 * nn f 51)))) (fun (z_ : Nat × Int32) => match z_ with | (s2, b) => [(3, .int (nI s2)), (2, .int b), (0, .ref ob), (1, .int (nI v))]) (fun (z_ : Nat × Int32) => match z_ with | (s2, b) => []) ?_ (0, (-1)) _ ⟨Nat.zero_le _, rfl, Or.inl rfl⟩ (lv_sub hl [0, 1, 2, 3] rfl)
  rintro ⟨s2, b⟩ ls hI hl ih4
  have hl : lv_has ls 5 [(3, .int (nI s2)), (2, .int b), (0, .ref ob), (1, .int (nI v))] := hl
  replace hI : s2 ≤ 2 ^ v ∧ b = lsB f v s2 ∧ (s2 = 0 ∨ v ≤ nn f (57 + (11 * nn f 51))) := hI
  obtain ⟨hi, ha, hor⟩ := hI
  refine tS (st' := []) rfl ?_
  refine lv_iload_n hx hb dX6_least_4 rfl (lv_at hl 0 rfl) ?_
  refine lv_iconst (v := nI 1) hx hb dX6_least_5 (by decide +kernel) ?_
  refine lv_iload_n hx hb dX6_least_6 rfl (lv_at hl 3 rfl) ?_
  refine lv_ishl hx hb dX6_least_7 ?_
  refine tI (y := nI (2 ^ v)) (shl1 v (by omega)) ?_
  refine icmp_geN (tgt := 67) hx hb (by omega) (by omega) dX6_least_8 (by decide) (fun c8 => ?_) (fun c8 => ?_)
  · skip
    refine lv_iload_n hx hb dX6_least_67 rfl (lv_at hl 1 rfl) ?_
    refine tS (st' := [.int (fLs f v)]) (congrArg (fun z => [Value.int z]) (by unfold fLs; rw [if_pos (by omega), ha, show s2 = 2 ^ v by omega])) ?_
    exact W.iret hx hb hr (fun t ht hW => ⟨rfl, ht⟩) (fun _ h => nomatch h) dX6_least_68
  · skip
    refine lv_iload_n hx hb dX6_least_11 rfl (lv_at hl 3 rfl) ?_
    refine lv_aload_n hx hb dX6_least_12 rfl (lv_at hl 2 rfl) ?_
    refine va_get (D := G.1) (ci := 6) (v := .ref a1) (C := RX6) (T := TX6) (N := 16) hx hb hts w_0 hown hE.1 hP 0 rfl rfl 0 (by decide) w_1 (fun _ h9 => h9) rfl dX6_least_13 ?_
    refine lv_aload_n hx hb dX6_least_16 rfl (lv_at hl 2 rfl) ?_
    refine va_get (D := G.1) (ci := 6) (v := .ref a1) (C := RX6) (T := TX6) (N := 16) hx hb hts w_0 hown hE.1 hP 0 rfl rfl 0 (by decide) w_1 (fun _ h9 => h9) rfl dX6_least_17 ?_
    refine lv_bipush (v := nI 51) hx hb dX6_least_20 (by decide +kernel) ?_
    refine ialdN (k := 51) hx hb hE.1 hP 1 0 rfl rfl (by omega) (by decide) dX6_least_22 ?_
    refine tI (y := nI (nn f 51)) h51 ?_
    refine pcall (st1 := [.int (f (57 + (11 * (nn f 51)))), .int (nI v)]) (va_runS (As := [.ref a1, .int (nI (nn f 51))]) (rest := [.int (nI v)]) ⟨hx, hb, hml, hown, hts⟩ (c_X6_waitingAt l G a1 f (nn f 51) (by omega)) (va_cwS 2 hts gX6_least_X6_waitingAt rfl rfl rfl (by decide +kernel) ⟨Nat.le_of_ble_eq_true rfl, Nat.le_of_ble_eq_true rfl⟩) (PC.preS hE (hP.sub [1] rfl)) rfl rfl hl.1 rfl (lv_room (Nat.le_of_ble_eq_true rfl)) dX6_least_23 ⟨Nat.zero_le _, Nat.zero_le _⟩) rfl ?_
    refine tI (y := nI (nn f (57 + (11 * nn f 51)))) (hq) ?_
    refine icmp_gtN (tgt := 67) hx hb (by omega) (by omega) dX6_least_26 (by decide) (fun c26 => ?_) (fun c26 => ?_)
    · skip
      refine lv_iload_n hx hb dX6_least_67 rfl (lv_at hl 1 rfl) ?_
      refine tS (st' := [.int (fLs f v)]) (congrArg (fun z => [Value.int z]) (by unfold fLs; rw [if_neg (by omega), ha, show s2 = 0 by omega]; rfl)) ?_
      exact W.iret hx hb hr (fun t ht hW => ⟨rfl, ht⟩) (fun _ h => nomatch h) dX6_least_68
    · skip
      refine lv_aload_n hx hb dX6_least_29 rfl (lv_at hl 2 rfl) ?_
      refine lv_iload_n hx hb dX6_least_30 rfl (lv_at hl 3 rfl) ?_
      refine lv_iload_n hx hb dX6_least_31 rfl (lv_at hl 0 rfl) ?_
      refine pcall (st1 := [.int (lbR f v s2)]) (va_runV (As := [.int (nI v), .int (nI s2)]) (rest := []) ⟨hx, hb, hml, hown, hts⟩ (c_X6_listBy l G ob a1 a2 a3 a4 a5 f th pa sn tx n len spot kp thr bad lt one two wh hash hs v s2 (by omega) (by omega) (by omega)) (cwV 2 hts gX6_least_X6_listBy rfl rfl rfl (by decide +kernel) ⟨Nat.le_of_ble_eq_true rfl, Nat.le_of_ble_eq_true rfl⟩) (PC.preV hE (va_recv hE.1 hP (ci := 6) (q0 := 0) rfl rfl) hP) rfl rfl hl.1 rfl (lv_room (Nat.le_of_ble_eq_true rfl)) dX6_least_32 ⟨Nat.zero_le _, Nat.zero_le _⟩) rfl ?_
      refine lv_istore (lv' := [(4, .int (lbR f v s2)), (3, .int (nI s2)), (2, .int b), (0, .ref ob), (1, .int (nI v))]) hx hb dX6_least_35 hl (by decide) rfl (fun ls hl => ?_)
      refine lv_iload hx hb dX6_least_37 (lv_at hl 0 rfl) ?_
      refine lv_iconst (v := -1) hx hb dX6_least_39 (by decide +kernel) ?_
      refine cutL (σ := Int32) (n := 5) (pc1 := 60) (fun r => r = lsB f v (s2 + 1)) (fun r => [(4, .int (lbR f v s2)), (3, .int (nI s2)), (2, .int b), (0, .ref ob), (1, .int (nI v))]) (fun r => [.int r]) ?_ (fun J60 => ?_)
      · rintro r ls hI hl
        have hl : lv_has ls 5 [(4, .int (lbR f v s2)), (3, .int (nI s2)), (2, .int b), (0, .ref ob), (1, .int (nI v))] := hl
        replace hI : r = lsB f v (s2 + 1) := hI
        have hm := hI
        refine tS (st' := [.int r]) rfl ?_
        refine lv_istore_n (lv' := [(2, .int r), (4, .int (lbR f v s2)), (3, .int (nI s2)), (0, .ref ob), (1, .int (nI v))]) hx hb dX6_least_60 rfl hl (by decide) rfl (fun ls hl => ?_)
        refine lv_iinc (v := nI (s2 + 1)) (lv' := [(3, .int (nI (s2 + 1))), (2, .int r), (4, .int (lbR f v s2)), (0, .ref ob), (1, .int (nI v))]) hx hb dX6_least_61 hl (k := 2) rfl (nI_inc1 _) (by decide) rfl (fun ls hl => ?_)
        refine lv_goto (tgt := 4) hx hb dX6_least_64 (by decide) ?_
        exact ih4 ((s2 + 1), r) _ ⟨by omega, hm, Or.inr c26⟩ (lv_sub hl [0, 1, 3, 4] rfl) (by (try dsimp only); omega)
      · skip
        refine lv_icmp_eq (tgt := 59) hx hb dX6_least_40 (by decide) (fun c40 => ?_) (fun c40 => ?_)
        · skip
          refine lv_iload_n hx hb dX6_least_59 rfl (lv_at hl 2 rfl) ?_
          exact J60 b _ (by show _ = (if _ then _ else _); rw [← ha]; (repeat' split) <;> simp_all) (lv_sub hl [0, 1, 2, 3, 4] rfl)
        · skip
          refine lv_iload_n hx hb dX6_least_43 rfl (lv_at hl 2 rfl) ?_
          refine lv_iconst (v := -1) hx hb dX6_least_44 (by decide +kernel) ?_
          refine lv_icmp_eq (tgt := 54) hx hb dX6_least_45 (by decide) (fun c45 => ?_) (fun c45 => ?_)
          · skip
            refine lv_iload hx hb dX6_least_54 (lv_at hl 0 rfl) ?_
            refine lv_goto (tgt := 60) hx hb dX6_least_56 (by decide) ?_
            exact J60 (lbR f v s2) _ (by show _ = (if _ then _ else _); rw [← ha]; (repeat' split) <;> simp_all) (lv_sub hl [0, 1, 2, 3, 4] rfl)
          · skip
            refine lv_iload hx hb dX6_least_48 (lv_at hl 0 rfl) ?_
            refine lv_iload_n hx hb dX6_least_50 rfl (lv_at hl 2 rfl) ?_
            refine lv_icmp_ge (tgt := 59) hx hb dX6_least_51 (by decide) (fun c51 => ?_) (fun c51 => ?_)
            · skip
              refine lv_iload_n hx hb dX6_least_59 rfl (lv_at hl 2 rfl) ?_
              exact J60 b _ (by show _ = (if _ then _ else _); rw [← ha]; (repeat' split) <;> simp_all) (lv_sub hl [0, 1, 2, 3, 4] rfl)
            · skip
              refine lv_iload hx hb dX6_least_54 (lv_at hl 0 rfl) ?_
              refine lv_goto (tgt := 60) hx hb dX6_least_56 (by decide) ?_
              exact J60 (lbR f v s2) _ (by show _ = (if _ then _ else _); rw [← ha]; (repeat' split) <;> simp_all) (lv_sub hl [0, 1, 2, 3, 4] rfl)

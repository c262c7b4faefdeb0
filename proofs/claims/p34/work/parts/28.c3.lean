set_option maxHeartbeats 4000000 in
set_option maxRecDepth 100000 in
theorem c_X3_lineAtBank_0 (l : Launch) (G : eG) (sa cu se b0 b1 l0 l1 wi : Nat) (x7 x8 x9 x10 x11 x12 x13 : Int32) : Met l yX3_lineAtBank wsX3_lineAtBank ({ frames := 0, cells := 0, slots := 0, locals := 0 }) (PC [.ref sa, .int (nI 0)] G (fun H => va_P G.1 vwCl [(sa, .inr (3, [.ref cu, .ref se, .ref b0, .ref b1, .ref l0, .ref l1, .ref wi, .int x7, .int x8, .int x9, .int x10, .int x11, .int x12, .int x13]))] H)) (PQ (some (.ref b0))) 0 0 noA := by
  refine ofB (cc := cX3_lineAtBank) (maxL := 2) (ret := (some (.object "CableFerry$Line"))) (by decide) rfl (Nat.le_of_ble_eq_true rfl) ?_
  intro p e s m below meth c hx hb hr hlocks hml hown hin hts hE hI ls hl
  replace hown : s.vm.findClass RX3 = some m.cls := hown
  have hl : lv_has ls 2 [(0, .ref sa), (1, .int (nI 0))] := hl
  have hP : va_P G.1 vwCl [(sa, .inr (3, [.ref cu, .ref se, .ref b0, .ref b1, .ref l0, .ref l1, .ref wi, .int x7, .int x8, .int x9, .int x10, .int x11, .int x12, .int x13]))] s.heap := hI
  have w_0 : ∀ w ∈ u_ws RX3 TX3 14, w ∈ wsX3_lineAtBank := by decide +kernel
  have w_1 := hts (.fieldLink RX3 30 "CableFerry$State" "bank0" "LCableFerry$Line;") (by decide +kernel)
  skip
  refine lv_iload_n hx hb dX3_lineAtBank_0 rfl (lv_at hl 1 rfl) ?_
  refine lv_if_ne (tgt := 11) hx hb dX3_lineAtBank_1 (by decide) (fun c1 => ?_) (fun c1 => ?_)
  · skip
    exact absurd c1 (by decide)
  · skip
    refine lv_aload_n hx hb dX3_lineAtBank_4 rfl (lv_at hl 0 rfl) ?_
    refine va_get (D := G.1) (ci := 3) (v := .ref b0) (C := RX3) (T := TX3) (N := 14) hx hb hts w_0 hown hE.1 hP 0 rfl rfl 2 (by decide) w_1 (fun _ h9 => h9) rfl dX3_lineAtBank_5 ?_
    refine lv_goto (tgt := 15) hx hb dX3_lineAtBank_8 (by decide) ?_
    exact W.aret hx hb hr (Or.inl ⟨_, rfl⟩) (Or.inr ⟨_, rfl⟩) (fun t ht hW => ⟨rfl, ht⟩) (fun _ h => nomatch h) dX3_lineAtBank_15
set_option maxHeartbeats 4000000 in
set_option maxRecDepth 100000 in
theorem c_X3_lineAtBank_1 (l : Launch) (G : eG) (sa cu se b0 b1 l0 l1 wi : Nat) (x7 x8 x9 x10 x11 x12 x13 : Int32) : Met l yX3_lineAtBank wsX3_lineAtBank ({ frames := 0, cells := 0, slots := 0, locals := 0 }) (PC [.ref sa, .int (nI 1)] G (fun H => va_P G.1 vwCl [(sa, .inr (3, [.ref cu, .ref se, .ref b0, .ref b1, .ref l0, .ref l1, .ref wi, .int x7, .int x8, .int x9, .int x10, .int x11, .int x12, .int x13]))] H)) (PQ (some (.ref b1))) 0 0 noA := by
  refine ofB (cc := cX3_lineAtBank) (maxL := 2) (ret := (some (.object "CableFerry$Line"))) (by decide) rfl (Nat.le_of_ble_eq_true rfl) ?_
  intro p e s m below meth c hx hb hr hlocks hml hown hin hts hE hI ls hl
  replace hown : s.vm.findClass RX3 = some m.cls := hown
  have hl : lv_has ls 2 [(0, .ref sa), (1, .int (nI 1))] := hl
  have hP : va_P G.1 vwCl [(sa, .inr (3, [.ref cu, .ref se, .ref b0, .ref b1, .ref l0, .ref l1, .ref wi, .int x7, .int x8, .int x9, .int x10, .int x11, .int x12, .int x13]))] s.heap := hI
  have w_0 : ∀ w ∈ u_ws RX3 TX3 14, w ∈ wsX3_lineAtBank := by decide +kernel
  have w_1 := hts (.fieldLink RX3 34 "CableFerry$State" "bank1" "LCableFerry$Line;") (by decide +kernel)
  skip
  refine lv_iload_n hx hb dX3_lineAtBank_0 rfl (lv_at hl 1 rfl) ?_
  refine lv_if_ne (tgt := 11) hx hb dX3_lineAtBank_1 (by decide) (fun c1 => ?_) (fun c1 => ?_)
  · skip
    refine lv_aload_n hx hb dX3_lineAtBank_11 rfl (lv_at hl 0 rfl) ?_
    refine va_get (D := G.1) (ci := 3) (v := .ref b1) (C := RX3) (T := TX3) (N := 14) hx hb hts w_0 hown hE.1 hP 0 rfl rfl 3 (by decide) w_1 (fun _ h9 => h9) rfl dX3_lineAtBank_12 ?_
    exact W.aret hx hb hr (Or.inl ⟨_, rfl⟩) (Or.inr ⟨_, rfl⟩) (fun t ht hW => ⟨rfl, ht⟩) (fun _ h => nomatch h) dX3_lineAtBank_15
  · skip
    exact absurd c1 (by decide)
set_option maxHeartbeats 4000000 in
set_option maxRecDepth 100000 in
theorem c_X3_lineOnLane_0 (l : Launch) (G : eG) (sa cu se b0 b1 l0 l1 wi : Nat) (x7 x8 x9 x10 x11 x12 x13 : Int32) : Met l yX3_lineOnLane wsX3_lineOnLane ({ frames := 0, cells := 0, slots := 0, locals := 0 }) (PC [.ref sa, .int (nI 0)] G (fun H => va_P G.1 vwCl [(sa, .inr (3, [.ref cu, .ref se, .ref b0, .ref b1, .ref l0, .ref l1, .ref wi, .int x7, .int x8, .int x9, .int x10, .int x11, .int x12, .int x13]))] H)) (PQ (some (.ref l0))) 0 0 noA := by
  refine ofB (cc := cX3_lineOnLane) (maxL := 2) (ret := (some (.object "CableFerry$Line"))) (by decide) rfl (Nat.le_of_ble_eq_true rfl) ?_
  intro p e s m below meth c hx hb hr hlocks hml hown hin hts hE hI ls hl
  replace hown : s.vm.findClass RX3 = some m.cls := hown
  have hl : lv_has ls 2 [(0, .ref sa), (1, .int (nI 0))] := hl
  have hP : va_P G.1 vwCl [(sa, .inr (3, [.ref cu, .ref se, .ref b0, .ref b1, .ref l0, .ref l1, .ref wi, .int x7, .int x8, .int x9, .int x10, .int x11, .int x12, .int x13]))] s.heap := hI
  have w_0 : ∀ w ∈ u_ws RX3 TX3 14, w ∈ wsX3_lineOnLane := by decide +kernel
  have w_1 := hts (.fieldLink RX3 37 "CableFerry$State" "lane0" "LCableFerry$Line;") (by decide +kernel)
  skip
  refine lv_iload_n hx hb dX3_lineOnLane_0 rfl (lv_at hl 1 rfl) ?_
  refine lv_if_ne (tgt := 11) hx hb dX3_lineOnLane_1 (by decide) (fun c1 => ?_) (fun c1 => ?_)
  · skip
    exact absurd c1 (by decide)
  · skip
    refine lv_aload_n hx hb dX3_lineOnLane_4 rfl (lv_at hl 0 rfl) ?_
    refine va_get (D := G.1) (ci := 3) (v := .ref l0) (C := RX3) (T := TX3) (N := 14) hx hb hts w_0 hown hE.1 hP 0 rfl rfl 4 (by decide) w_1 (fun _ h9 => h9) rfl dX3_lineOnLane_5 ?_
    refine lv_goto (tgt := 15) hx hb dX3_lineOnLane_8 (by decide) ?_
    exact W.aret hx hb hr (Or.inl ⟨_, rfl⟩) (Or.inr ⟨_, rfl⟩) (fun t ht hW => ⟨rfl, ht⟩) (fun _ h => nomatch h) dX3_lineOnLane_15
set_option maxHeartbeats 4000000 in
set_option maxRecDepth 100000 in
theorem c_X3_lineOnLane_1 (l : Launch) (G : eG) (sa cu se b0 b1 l0 l1 wi : Nat) (x7 x8 x9 x10 x11 x12 x13 : Int32) : Met l yX3_lineOnLane wsX3_lineOnLane ({ frames := 0, cells := 0, slots := 0, locals := 0 }) (PC [.ref sa, .int (nI 1)] G (fun H => va_P G.1 vwCl [(sa, .inr (3, [.ref cu, .ref se, .ref b0, .ref b1, .ref l0, .ref l1, .ref wi, .int x7, .int x8, .int x9, .int x10, .int x11, .int x12, .int x13]))] H)) (PQ (some (.ref l1))) 0 0 noA := by
  refine ofB (cc := cX3_lineOnLane) (maxL := 2) (ret := (some (.object "CableFerry$Line"))) (by decide) rfl (Nat.le_of_ble_eq_true rfl) ?_
  intro p e s m below meth c hx hb hr hlocks hml hown hin hts hE hI ls hl
  replace hown : s.vm.findClass RX3 = some m.cls := hown
  have hl : lv_has ls 2 [(0, .ref sa), (1, .int (nI 1))] := hl
  have hP : va_P G.1 vwCl [(sa, .inr (3, [.ref cu, .ref se, .ref b0, .ref b1, .ref l0, .ref l1, .ref wi, .int x7, .int x8, .int x9, .int x10, .int x11, .int x12, .int x13]))] s.heap := hI
  have w_0 : ∀ w ∈ u_ws RX3 TX3 14, w ∈ wsX3_lineOnLane := by decide +kernel
  have w_1 := hts (.fieldLink RX3 40 "CableFerry$State" "lane1" "LCableFerry$Line;") (by decide +kernel)
  skip
  refine lv_iload_n hx hb dX3_lineOnLane_0 rfl (lv_at hl 1 rfl) ?_
  refine lv_if_ne (tgt := 11) hx hb dX3_lineOnLane_1 (by decide) (fun c1 => ?_) (fun c1 => ?_)
  · skip
    refine lv_aload_n hx hb dX3_lineOnLane_11 rfl (lv_at hl 0 rfl) ?_
    refine va_get (D := G.1) (ci := 3) (v := .ref l1) (C := RX3) (T := TX3) (N := 14) hx hb hts w_0 hown hE.1 hP 0 rfl rfl 5 (by decide) w_1 (fun _ h9 => h9) rfl dX3_lineOnLane_12 ?_
    exact W.aret hx hb hr (Or.inl ⟨_, rfl⟩) (Or.inr ⟨_, rfl⟩) (fun t ht hW => ⟨rfl, ht⟩) (fun _ h => nomatch h) dX3_lineOnLane_15
  · skip
    exact absurd c1 (by decide)
set_option maxHeartbeats 4000000 in
set_option maxRecDepth 100000 in
theorem c_X3_vehiclesOnDeck (l : Launch) (G : eG) (sa cu se b0 b1 l0 l0w l0b l1 l1w l1b wi ww : Nat) (f : Nat → Int32) : Met l yX3_vehiclesOnDeck wsX3_vehiclesOnDeck ({ frames := 1, cells := 0, slots := 0, locals := 20 }) (PC [.ref sa] G (fun H => va_P G.1 vwCl [(sa, .inr (3, [.ref cu, .ref se, .ref b0, .ref b1, .ref l0, .ref l1, .ref wi, .int (f 50), .int (f 51), .int (f 52), .int (f 53), .int (f 54), .int (f 55), .int (f 56)])), (cu, .inl (G.2.1, 24, .inl (fun j => f (3 + j)))), (se, .inl (G.2.1, 3, .inl f)), (l0, .inr (1, [.ref l0w, .ref l0b, .int (nI (nn f 79)), .int (fLw f 0)])), (l1, .inr (1, [.ref l1w, .ref l1b, .int (nI (nn f 88)), .int (fLw f 1)])), (wi, .inr (4, [.ref ww, .int (f 47), .int (f 48), .int (f 49)])), (ww, .inl (G.2.1, 20, .inl (fun j => f (27 + j))))] H)) (PQ (some (.int (nI (nn f 79 + nn f 88))))) 0 0 noA := by
  refine ofB (cc := cX3_vehiclesOnDeck) (maxL := 1) (ret := (some .int)) (by decide) rfl (Nat.le_of_ble_eq_true rfl) ?_
  intro p e s m below meth c hx hb hr hlocks hml hown hin hts hE hI ls hl
  replace hown : s.vm.findClass RX3 = some m.cls := hown
  have hl : lv_has ls 1 [(0, .ref sa)] := hl
  have hP : va_P G.1 vwCl [(sa, .inr (3, [.ref cu, .ref se, .ref b0, .ref b1, .ref l0, .ref l1, .ref wi, .int (f 50), .int (f 51), .int (f 52), .int (f 53), .int (f 54), .int (f 55), .int (f 56)])), (cu, .inl (G.2.1, 24, .inl (fun j => f (3 + j)))), (se, .inl (G.2.1, 3, .inl f)), (l0, .inr (1, [.ref l0w, .ref l0b, .int (nI (nn f 79)), .int (fLw f 0)])), (l1, .inr (1, [.ref l1w, .ref l1b, .int (nI (nn f 88)), .int (fLw f 1)])), (wi, .inr (4, [.ref ww, .int (f 47), .int (f 48), .int (f 49)])), (ww, .inl (G.2.1, 20, .inl (fun j => f (27 + j))))] s.heap := hI
  have w_0 : ∀ w ∈ u_ws RX3 TX3 14, w ∈ wsX3_vehiclesOnDeck := by decide +kernel
  have w_1 := hts (.fieldLink RX3 37 "CableFerry$State" "lane0" "LCableFerry$Line;") (by decide +kernel)
  have w_2 := hts (.fieldLink RX3 40 "CableFerry$State" "lane1" "LCableFerry$Line;") (by decide +kernel)
  skip
  refine lv_aload_n hx hb dX3_vehiclesOnDeck_0 rfl (lv_at hl 0 rfl) ?_
  refine va_get (D := G.1) (ci := 3) (v := .ref l0) (C := RX3) (T := TX3) (N := 14) hx hb hts w_0 hown hE.1 hP 0 rfl rfl 4 (by decide) w_1 (fun _ h9 => h9) rfl dX3_vehiclesOnDeck_1 ?_
  refine pcall (st1 := [.int (nI (nn f 79))]) (va_runV (As := []) (rest := []) ⟨hx, hb, hml, hown, hts⟩ (c_X1_size l G l0 l0w l0b (nn f 79) (fLw f 0)) (cwV 0 hts gX3_vehiclesOnDeck_X1_size rfl rfl rfl (by decide +kernel) ⟨Nat.le_of_ble_eq_true rfl, Nat.le_of_ble_eq_true rfl⟩) (PC.preV hE (va_recv hE.1 hP (ci := 1) (q0 := 3) rfl rfl) (hP.sub [3] rfl)) rfl rfl hl.1 rfl (lv_room (Nat.le_of_ble_eq_true rfl)) dX3_vehiclesOnDeck_4 ⟨Nat.zero_le _, Nat.zero_le _⟩) rfl ?_
  refine lv_aload_n hx hb dX3_vehiclesOnDeck_7 rfl (lv_at hl 0 rfl) ?_
  refine va_get (D := G.1) (ci := 3) (v := .ref l1) (C := RX3) (T := TX3) (N := 14) hx hb hts w_0 hown hE.1 hP 0 rfl rfl 5 (by decide) w_2 (fun _ h9 => h9) rfl dX3_vehiclesOnDeck_8 ?_
  refine pcall (st1 := [.int (nI (nn f 88)), .int (nI (nn f 79))]) (va_runV (As := []) (rest := [.int (nI (nn f 79))]) ⟨hx, hb, hml, hown, hts⟩ (c_X1_size l G l1 l1w l1b (nn f 88) (fLw f 1)) (cwV 0 hts gX3_vehiclesOnDeck_X1_size rfl rfl rfl (by decide +kernel) ⟨Nat.le_of_ble_eq_true rfl, Nat.le_of_ble_eq_true rfl⟩) (PC.preV hE (va_recv hE.1 hP (ci := 1) (q0 := 4) rfl rfl) (hP.sub [4] rfl)) rfl rfl hl.1 rfl (lv_room (Nat.le_of_ble_eq_true rfl)) dX3_vehiclesOnDeck_11 ⟨Nat.zero_le _, Nat.zero_le _⟩) rfl ?_
  refine iaddN hx hb dX3_vehiclesOnDeck_14 ?_
  refine tS (st' := [.int (nI (nn f 79 + nn f 88))]) (congrArg (fun z => [Value.int z]) ((by simp [b2]))) ?_
  exact W.iret hx hb hr (fun t ht hW => ⟨rfl, ht⟩) (fun _ h => nomatch h) dX3_vehiclesOnDeck_15
set_option maxHeartbeats 4000000 in
set_option maxRecDepth 100000 in
theorem c_X3_weightOnDeck (l : Launch) (G : eG) (sa cu se b0 b1 l0 l0w l0b l1 l1w l1b wi ww : Nat) (f : Nat → Int32) : Met l yX3_weightOnDeck wsX3_weightOnDeck ({ frames := 1, cells := 0, slots := 0, locals := 20 }) (PC [.ref sa] G (fun H => va_P G.1 vwCl [(sa, .inr (3, [.ref cu, .ref se, .ref b0, .ref b1, .ref l0, .ref l1, .ref wi, .int (f 50), .int (f 51), .int (f 52), .int (f 53), .int (f 54), .int (f 55), .int (f 56)])), (cu, .inl (G.2.1, 24, .inl (fun j => f (3 + j)))), (se, .inl (G.2.1, 3, .inl f)), (l0, .inr (1, [.ref l0w, .ref l0b, .int (nI (nn f 79)), .int (fLw f 0)])), (l1, .inr (1, [.ref l1w, .ref l1b, .int (nI (nn f 88)), .int (fLw f 1)])), (wi, .inr (4, [.ref ww, .int (f 47), .int (f 48), .int (f 49)])), (ww, .inl (G.2.1, 20, .inl (fun j => f (27 + j))))] H)) (PQ (some (.int (fLw f 0 + fLw f 1)))) 0 0 noA := by
  refine ofB (cc := cX3_weightOnDeck) (maxL := 1) (ret := (some .int)) (by decide) rfl (Nat.le_of_ble_eq_true rfl) ?_
  intro p e s m below meth c hx hb hr hlocks hml hown hin hts hE hI ls hl
  replace hown : s.vm.findClass RX3 = some m.cls := hown
  have hl : lv_has ls 1 [(0, .ref sa)] := hl
  have hP : va_P G.1 vwCl [(sa, .inr (3, [.ref cu, .ref se, .ref b0, .ref b1, .ref l0, .ref l1, .ref wi, .int (f 50), .int (f 51), .int (f 52), .int (f 53), .int (f 54), .int (f 55), .int (f 56)])), (cu, .inl (G.2.1, 24, .inl (fun j => f (3 + j)))), (se, .inl (G.2.1, 3, .inl f)), (l0, .inr (1, [.ref l0w, .ref l0b, .int (nI (nn f 79)), .int (fLw f 0)])), (l1, .inr (1, [.ref l1w, .ref l1b, .int (nI (nn f 88)), .int (fLw f 1)])), (wi, .inr (4, [.ref ww, .int (f 47), .int (f 48), .int (f 49)])), (ww, .inl (G.2.1, 20, .inl (fun j => f (27 + j))))] s.heap := hI
  have w_0 : ∀ w ∈ u_ws RX3 TX3 14, w ∈ wsX3_weightOnDeck := by decide +kernel
  have w_1 := hts (.fieldLink RX3 37 "CableFerry$State" "lane0" "LCableFerry$Line;") (by decide +kernel)
  have w_2 := hts (.fieldLink RX3 40 "CableFerry$State" "lane1" "LCableFerry$Line;") (by decide +kernel)
  skip
  refine lv_aload_n hx hb dX3_weightOnDeck_0 rfl (lv_at hl 0 rfl) ?_
  refine va_get (D := G.1) (ci := 3) (v := .ref l0) (C := RX3) (T := TX3) (N := 14) hx hb hts w_0 hown hE.1 hP 0 rfl rfl 4 (by decide) w_1 (fun _ h9 => h9) rfl dX3_weightOnDeck_1 ?_
  refine pcall (st1 := [.int (fLw f 0)]) (va_runV (As := []) (rest := []) ⟨hx, hb, hml, hown, hts⟩ (c_X1_weight l G l0 l0w l0b (nn f 79) (fLw f 0)) (cwV 0 hts gX3_weightOnDeck_X1_weight rfl rfl rfl (by decide +kernel) ⟨Nat.le_of_ble_eq_true rfl, Nat.le_of_ble_eq_true rfl⟩) (PC.preV hE (va_recv hE.1 hP (ci := 1) (q0 := 3) rfl rfl) (hP.sub [3] rfl)) rfl rfl hl.1 rfl (lv_room (Nat.le_of_ble_eq_true rfl)) dX3_weightOnDeck_4 ⟨Nat.zero_le _, Nat.zero_le _⟩) rfl ?_
  refine lv_aload_n hx hb dX3_weightOnDeck_7 rfl (lv_at hl 0 rfl) ?_
  refine va_get (D := G.1) (ci := 3) (v := .ref l1) (C := RX3) (T := TX3) (N := 14) hx hb hts w_0 hown hE.1 hP 0 rfl rfl 5 (by decide) w_2 (fun _ h9 => h9) rfl dX3_weightOnDeck_8 ?_
  refine pcall (st1 := [.int (fLw f 1), .int (fLw f 0)]) (va_runV (As := []) (rest := [.int (fLw f 0)]) ⟨hx, hb, hml, hown, hts⟩ (c_X1_weight l G l1 l1w l1b (nn f 88) (fLw f 1)) (cwV 0 hts gX3_weightOnDeck_X1_weight rfl rfl rfl (by decide +kernel) ⟨Nat.le_of_ble_eq_true rfl, Nat.le_of_ble_eq_true rfl⟩) (PC.preV hE (va_recv hE.1 hP (ci := 1) (q0 := 4) rfl rfl) (hP.sub [4] rfl)) rfl rfl hl.1 rfl (lv_room (Nat.le_of_ble_eq_true rfl)) dX3_weightOnDeck_11 ⟨Nat.zero_le _, Nat.zero_le _⟩) rfl ?_
  refine lv_iadd hx hb dX3_weightOnDeck_14 ?_
  refine tS (st' := [.int (fLw f 0 + fLw f 1)]) (congrArg (fun z => [Value.int z]) ((by simp [b2]))) ?_
  exact W.iret hx hb hr (fun t ht hW => ⟨rfl, ht⟩) (fun _ h => nomatch h) dX3_weightOnDeck_15
set_option maxHeartbeats 4000000 in
set_option maxRecDepth 100000 in
theorem c_X3_list (l : Launch) (G : eG) (sa cu se b0 b1 l0 l0w l0b l1 l1w l1b wi ww : Nat) (f : Nat → Int32) : Met l yX3_list wsX3_list ({ frames := 1, cells := 0, slots := 0, locals := 21 }) (PC [.ref sa] G (fun H => va_P G.1 vwCl [(sa, .inr (3, [.ref cu, .ref se, .ref b0, .ref b1, .ref l0, .ref l1, .ref wi, .int (f 50), .int (f 51), .int (f 52), .int (f 53), .int (f 54), .int (f 55), .int (f 56)])), (cu, .inl (G.2.1, 24, .inl (fun j => f (3 + j)))), (se, .inl (G.2.1, 3, .inl f)), (l0, .inr (1, [.ref l0w, .ref l0b, .int (nI (nn f 79)), .int (fLw f 0)])), (l1, .inr (1, [.ref l1w, .ref l1b, .int (nI (nn f 88)), .int (fLw f 1)])), (wi, .inr (4, [.ref ww, .int (f 47), .int (f 48), .int (f 49)])), (ww, .inl (G.2.1, 20, .inl (fun j => f (27 + j))))] H)) (PQ (some (.int (fLst f)))) 0 0 noA := by
  refine ofB (cc := cX3_list) (maxL := 1) (ret := (some .int)) (by decide) rfl (Nat.le_of_ble_eq_true rfl) ?_
  intro p e s m below meth c hx hb hr hlocks hml hown hin hts hE hI ls hl
  replace hown : s.vm.findClass RX3 = some m.cls := hown
  have hl : lv_has ls 1 [(0, .ref sa)] := hl
  have hP : va_P G.1 vwCl [(sa, .inr (3, [.ref cu, .ref se, .ref b0, .ref b1, .ref l0, .ref l1, .ref wi, .int (f 50), .int (f 51), .int (f 52), .int (f 53), .int (f 54), .int (f 55), .int (f 56)])), (cu, .inl (G.2.1, 24, .inl (fun j => f (3 + j)))), (se, .inl (G.2.1, 3, .inl f)), (l0, .inr (1, [.ref l0w, .ref l0b, .int (nI (nn f 79)), .int (fLw f 0)])), (l1, .inr (1, [.ref l1w, .ref l1b, .int (nI (nn f 88)), .int (fLw f 1)])), (wi, .inr (4, [.ref ww, .int (f 47), .int (f 48), .int (f 49)])), (ww, .inl (G.2.1, 20, .inl (fun j => f (27 + j))))] s.heap := hI
  have w_0 : ∀ w ∈ u_ws RX3 TX3 14, w ∈ wsX3_list := by decide +kernel
  have w_1 := hts (.fieldLink RX3 37 "CableFerry$State" "lane0" "LCableFerry$Line;") (by decide +kernel)
  have w_2 := hts (.fieldLink RX3 40 "CableFerry$State" "lane1" "LCableFerry$Line;") (by decide +kernel)
  have w_3 := hts (.methodLink RX3 86 Lib.Math.abs.name) (by decide +kernel)
  have w_4 := hts (.static Lib.Math.abs.name) (by decide +kernel)
  have w_5 := hts (.initialized "java/lang/Math") (by decide +kernel)
  have w_6 := hts (.code Lib.Math.abs.name Lib.Math.abs.code 1 (some .int)) (by decide +kernel)
  skip
  refine lv_aload_n hx hb dX3_list_0 rfl (lv_at hl 0 rfl) ?_
  refine va_get (D := G.1) (ci := 3) (v := .ref l0) (C := RX3) (T := TX3) (N := 14) hx hb hts w_0 hown hE.1 hP 0 rfl rfl 4 (by decide) w_1 (fun _ h9 => h9) rfl dX3_list_1 ?_
  refine pcall (st1 := [.int (fLw f 0)]) (va_runV (As := []) (rest := []) ⟨hx, hb, hml, hown, hts⟩ (c_X1_weight l G l0 l0w l0b (nn f 79) (fLw f 0)) (cwV 0 hts gX3_list_X1_weight rfl rfl rfl (by decide +kernel) ⟨Nat.le_of_ble_eq_true rfl, Nat.le_of_ble_eq_true rfl⟩) (PC.preV hE (va_recv hE.1 hP (ci := 1) (q0 := 3) rfl rfl) (hP.sub [3] rfl)) rfl rfl hl.1 rfl (lv_room (Nat.le_of_ble_eq_true rfl)) dX3_list_4 ⟨Nat.zero_le _, Nat.zero_le _⟩) rfl ?_
  refine lv_aload_n hx hb dX3_list_7 rfl (lv_at hl 0 rfl) ?_
  refine va_get (D := G.1) (ci := 3) (v := .ref l1) (C := RX3) (T := TX3) (N := 14) hx hb hts w_0 hown hE.1 hP 0 rfl rfl 5 (by decide) w_2 (fun _ h9 => h9) rfl dX3_list_8 ?_
  refine pcall (st1 := [.int (fLw f 1), .int (fLw f 0)]) (va_runV (As := []) (rest := [.int (fLw f 0)]) ⟨hx, hb, hml, hown, hts⟩ (c_X1_weight l G l1 l1w l1b (nn f 88) (fLw f 1)) (cwV 0 hts gX3_list_X1_weight rfl rfl rfl (by decide +kernel) ⟨Nat.le_of_ble_eq_true rfl, Nat.le_of_ble_eq_true rfl⟩) (PC.preV hE (va_recv hE.1 hP (ci := 1) (q0 := 4) rfl rfl) (hP.sub [4] rfl)) rfl rfl hl.1 rfl (lv_room (Nat.le_of_ble_eq_true rfl)) dX3_list_11 ⟨Nat.zero_le _, Nat.zero_le _⟩) rfl ?_
  refine lv_isub hx hb dX3_list_14 ?_
  refine va_mabs hx hb (hml.trans hl.1.symm) hown w_3 w_4 w_5 w_6 (by decide) (Nat.le_of_ble_eq_true rfl) (Nat.zero_le _) (Nat.zero_le _) dX3_list_15 ?_
  refine tS (st' := [.int (fLst f)]) (congrArg (fun z => [Value.int z]) (by rw [abs_I]; rfl)) ?_
  exact W.iret hx hb hr (fun t ht hW => ⟨rfl, ht⟩) (fun _ h => nomatch h) dX3_list_18
set_option maxHeartbeats 4000000 in
set_option maxRecDepth 100000 in
theorem c_X3_currentAhead (l : Launch) (G : eG) (sa cu se b0 b1 l0 l0w l0b l1 l1w l1b wi ww : Nat) (f : Nat → Int32) (hs : Shp f) (h : Nat) (hh : h < 24) : Met l yX3_currentAhead wsX3_currentAhead ({ frames := 1, cells := 0, slots := 0, locals := 22 }) (PC [.ref sa, .int (nI h)] G (fun H => va_P G.1 vwCl [(sa, .inr (3, [.ref cu, .ref se, .ref b0, .ref b1, .ref l0, .ref l1, .ref wi, .int (f 50), .int (f 51), .int (f 52), .int (f 53), .int (f 54), .int (f 55), .int (f 56)])), (cu, .inl (G.2.1, 24, .inl (fun j => f (3 + j)))), (se, .inl (G.2.1, 3, .inl f)), (l0, .inr (1, [.ref l0w, .ref l0b, .int (nI (nn f 79)), .int (fLw f 0)])), (l1, .inr (1, [.ref l1w, .ref l1b, .int (nI (nn f 88)), .int (fLw f 1)])), (wi, .inr (4, [.ref ww, .int (f 47), .int (f 48), .int (f 49)])), (ww, .inl (G.2.1, 20, .inl (fun j => f (27 + j))))] H)) (PQ (some (.int (f (3 + (nn f 50 + h) % 24))))) 0 0 noA := by
  refine ofB (cc := cX3_currentAhead) (maxL := 2) (ret := (some .int)) (by decide) rfl (Nat.le_of_ble_eq_true rfl) ?_
  intro p e s m below meth c hx hb hr hlocks hml hown hin hts hE hI ls hl
  replace hown : s.vm.findClass RX3 = some m.cls := hown
  have hl : lv_has ls 2 [(0, .ref sa), (1, .int (nI h))] := hl
  have hP : va_P G.1 vwCl [(sa, .inr (3, [.ref cu, .ref se, .ref b0, .ref b1, .ref l0, .ref l1, .ref wi, .int (f 50), .int (f 51), .int (f 52), .int (f 53), .int (f 54), .int (f 55), .int (f 56)])), (cu, .inl (G.2.1, 24, .inl (fun j => f (3 + j)))), (se, .inl (G.2.1, 3, .inl f)), (l0, .inr (1, [.ref l0w, .ref l0b, .int (nI (nn f 79)), .int (fLw f 0)])), (l1, .inr (1, [.ref l1w, .ref l1b, .int (nI (nn f 88)), .int (fLw f 1)])), (wi, .inr (4, [.ref ww, .int (f 47), .int (f 48), .int (f 49)])), (ww, .inl (G.2.1, 20, .inl (fun j => f (27 + j))))] s.heap := hI
  have w_0 : ∀ w ∈ u_ws RX3 TX3 14, w ∈ wsX3_currentAhead := by decide +kernel
  have w_1 := hts (.fieldLink RX3 9 "CableFerry$State" "currents" "[I") (by decide +kernel)
  have w_2 := hts (.fieldLink RX3 57 "CableFerry$State" "hours" "I") (by decide +kernel)
  have w_3 := hts (.static yX5_at) (by decide +kernel)
  obtain ⟨h50, h50b⟩ := hs.2.2.2.1
  refine lv_aload_n hx hb dX3_currentAhead_0 rfl (lv_at hl 0 rfl) ?_
  refine va_get (D := G.1) (ci := 3) (v := .ref cu) (C := RX3) (T := TX3) (N := 14) hx hb hts w_0 hown hE.1 hP 0 rfl rfl 0 (by decide) w_1 (fun _ h9 => h9) rfl dX3_currentAhead_1 ?_
  refine lv_aload_n hx hb dX3_currentAhead_4 rfl (lv_at hl 0 rfl) ?_
  refine va_get (D := G.1) (ci := 3) (v := .int (f 50)) (C := RX3) (T := TX3) (N := 14) hx hb hts w_0 hown hE.1 hP 0 rfl rfl 7 (by decide) w_2 (fun _ h9 => h9) rfl dX3_currentAhead_5 ?_
  refine tI (y := nI (nn f 50)) (h50) ?_
  refine lv_iload_n hx hb dX3_currentAhead_8 rfl (lv_at hl 1 rfl) ?_
  refine iaddN hx hb dX3_currentAhead_9 ?_
  refine lv_bipush (v := nI 24) hx hb dX3_currentAhead_10 (by decide +kernel) ?_
  refine pcall (st1 := [.int (nI (((nn f 50) + h) % 24)), .ref cu]) (va_runS (As := [.int (nI ((nn f 50) + h)), .int (nI 24)]) (rest := [.ref cu]) ⟨hx, hb, hml, hown, hts⟩ (c_J9_floorMod_7cf53 l G ((nn f 50) + h) 24 (by omega) (by decide) (by decide)) (va_cwS 2 hts gX3_currentAhead_J9_floorMod_7cf53 rfl rfl rfl (by decide +kernel) ⟨Nat.le_of_ble_eq_true rfl, Nat.le_of_ble_eq_true rfl⟩) (PC.preS hE P_nil) rfl rfl hl.1 rfl (lv_room (Nat.le_of_ble_eq_true rfl)) dX3_currentAhead_12 ⟨Nat.zero_le _, Nat.zero_le _⟩) rfl ?_
  refine pcall (st1 := [.int ((fun j => f (3 + j)) (((nn f 50) + h) % 24))]) (va_runSN (As := [.ref cu, .int (nI (((nn f 50) + h) % 24))]) (rest := []) ⟨hx, hb, hml, hown, hts⟩ (c_X5_at l G cu 24 (fun j => f (3 + j)) (((nn f 50) + h) % 24) (by omega) (by decide)) ⟨va_cnB 2 hts gX3_currentAhead_X5_at_n96 rfl rfl rfl (hE.2 (RX3, 96, yX5_at) (by decide +kernel)) (hts (.initialized RX5) (by decide +kernel)) (by decide +kernel) ⟨Nat.le_of_ble_eq_true rfl, Nat.le_of_ble_eq_true rfl⟩, w_3, trivial⟩ (PC.preS hE (hP.sub [1] rfl)) rfl rfl hl.1 rfl (lv_room (Nat.le_of_ble_eq_true rfl)) dX3_currentAhead_15 ⟨Nat.zero_le _, Nat.zero_le _⟩) rfl ?_
  refine tS (st' := [.int (f (3 + (nn f 50 + h) % 24))]) (congrArg (fun z => [Value.int z]) (rfl)) ?_
  exact W.iret hx hb hr (fun t ht hW => ⟨rfl, ht⟩) (fun _ h => nomatch h) dX3_currentAhead_18
set_option maxHeartbeats 4000000 in
set_option maxRecDepth 100000 in
theorem c_X3_strengthOf (l : Launch) (G : eG) (sa cu se b0 b1 l0 l0w l0b l1 l1w l1b wi ww : Nat) (f : Nat → Int32) (k : Nat) (hk : k < 20) : Met l yX3_strengthOf wsX3_strengthOf ({ frames := 2, cells := 0, slots := 0, locals := 43 }) (PC [.ref sa, .int (nI k)] G (fun H => va_P G.1 vwCl [(sa, .inr (3, [.ref cu, .ref se, .ref b0, .ref b1, .ref l0, .ref l1, .ref wi, .int (f 50), .int (f 51), .int (f 52), .int (f 53), .int (f 54), .int (f 55), .int (f 56)])), (cu, .inl (G.2.1, 24, .inl (fun j => f (3 + j)))), (se, .inl (G.2.1, 3, .inl f)), (l0, .inr (1, [.ref l0w, .ref l0b, .int (nI (nn f 79)), .int (fLw f 0)])), (l1, .inr (1, [.ref l1w, .ref l1b, .int (nI (nn f 88)), .int (fLw f 1)])), (wi, .inr (4, [.ref ww, .int (f 47), .int (f 48), .int (f 49)])), (ww, .inl (G.2.1, 20, .inl (fun j => f (27 + j))))] H)) (PQ (some (.int (fStr f k)))) 0 0 noA := by
  refine ofB (cc := cX3_strengthOf) (maxL := 2) (ret := (some .int)) (by decide) rfl (Nat.le_of_ble_eq_true rfl) ?_
  intro p e s m below meth c hx hb hr hlocks hml hown hin hts hE hI ls hl
  replace hown : s.vm.findClass RX3 = some m.cls := hown
  have hl : lv_has ls 2 [(0, .ref sa), (1, .int (nI k))] := hl
  have hP : va_P G.1 vwCl [(sa, .inr (3, [.ref cu, .ref se, .ref b0, .ref b1, .ref l0, .ref l1, .ref wi, .int (f 50), .int (f 51), .int (f 52), .int (f 53), .int (f 54), .int (f 55), .int (f 56)])), (cu, .inl (G.2.1, 24, .inl (fun j => f (3 + j)))), (se, .inl (G.2.1, 3, .inl f)), (l0, .inr (1, [.ref l0w, .ref l0b, .int (nI (nn f 79)), .int (fLw f 0)])), (l1, .inr (1, [.ref l1w, .ref l1b, .int (nI (nn f 88)), .int (fLw f 1)])), (wi, .inr (4, [.ref ww, .int (f 47), .int (f 48), .int (f 49)])), (ww, .inl (G.2.1, 20, .inl (fun j => f (27 + j))))] s.heap := hI
  have w_0 : ∀ w ∈ u_ws RX3 TX3 14, w ∈ wsX3_strengthOf := by decide +kernel
  have w_1 := hts (.fieldLink RX3 46 "CableFerry$State" "wire" "LCableFerry$Wire;") (by decide +kernel)
  have w_2 := hts (.fieldLink RX3 15 "CableFerry$State" "settings" "[I") (by decide +kernel)
  have w_3 := hts (.static yX5_at) (by decide +kernel)
  skip
  refine lv_aload_n hx hb dX3_strengthOf_0 rfl (lv_at hl 0 rfl) ?_
  refine va_get (D := G.1) (ci := 3) (v := .ref wi) (C := RX3) (T := TX3) (N := 14) hx hb hts w_0 hown hE.1 hP 0 rfl rfl 6 (by decide) w_1 (fun _ h9 => h9) rfl dX3_strengthOf_1 ?_
  refine lv_iload_n hx hb dX3_strengthOf_4 rfl (lv_at hl 1 rfl) ?_
  refine lv_aload_n hx hb dX3_strengthOf_5 rfl (lv_at hl 0 rfl) ?_
  refine va_get (D := G.1) (ci := 3) (v := .ref se) (C := RX3) (T := TX3) (N := 14) hx hb hts w_0 hown hE.1 hP 0 rfl rfl 1 (by decide) w_2 (fun _ h9 => h9) rfl dX3_strengthOf_6 ?_
  refine lv_iconst (v := nI 0) hx hb dX3_strengthOf_9 (by decide +kernel) ?_
  refine pcall (st1 := [.int (f 0), .int (nI k), .ref wi]) (va_runSN (As := [.ref se, .int (nI 0)]) (rest := [.int (nI k), .ref wi]) ⟨hx, hb, hml, hown, hts⟩ (c_X5_at l G se 3 f 0 (by omega) (by decide)) ⟨va_cnB 2 hts gX3_strengthOf_X5_at_n96 rfl rfl rfl (hE.2 (RX3, 96, yX5_at) (by decide +kernel)) (hts (.initialized RX5) (by decide +kernel)) (by decide +kernel) ⟨Nat.le_of_ble_eq_true rfl, Nat.le_of_ble_eq_true rfl⟩, w_3, trivial⟩ (PC.preS hE (hP.sub [2] rfl)) rfl rfl hl.1 rfl (lv_room (Nat.le_of_ble_eq_true rfl)) dX3_strengthOf_10 ⟨Nat.zero_le _, Nat.zero_le _⟩) rfl ?_
  refine pcall (st1 := [.int (fStr f k)]) (va_runV (As := [.int (nI k), .int (f 0)]) (rest := []) ⟨hx, hb, hml, hown, hts⟩ (c_X4_strengthOf l G wi ww f k (by omega)) (cwV 2 hts gX3_strengthOf_X4_strengthOf rfl rfl rfl (by decide +kernel) ⟨Nat.le_of_ble_eq_true rfl, Nat.le_of_ble_eq_true rfl⟩) (PC.preV hE (va_recv hE.1 hP (ci := 4) (q0 := 5) rfl rfl) (hP.sub [5, 6] rfl)) rfl rfl hl.1 rfl (lv_room (Nat.le_of_ble_eq_true rfl)) dX3_strengthOf_13 ⟨Nat.zero_le _, Nat.zero_le _⟩) rfl ?_
  exact W.iret hx hb hr (fun t ht hW => ⟨rfl, ht⟩) (fun _ h => nomatch h) dX3_strengthOf_16
set_option maxHeartbeats 4000000 in
set_option maxRecDepth 100000 in
theorem c_X3_tensionOf (l : Launch) (G : eG) (sa cu se b0 b1 l0 l0w l0b l1 l1w l1b wi ww : Nat) (f : Nat → Int32) (hs : Shp f) (k : Nat) (hk : k < 20) : Met l yX3_tensionOf wsX3_tensionOf ({ frames := 2, cells := 0, slots := 0, locals := 47 }) (PC [.ref sa, .int (nI k)] G (fun H => va_P G.1 vwCl [(sa, .inr (3, [.ref cu, .ref se, .ref b0, .ref b1, .ref l0, .ref l1, .ref wi, .int (f 50), .int (f 51), .int (f 52), .int (f 53), .int (f 54), .int (f 55), .int (f 56)])), (cu, .inl (G.2.1, 24, .inl (fun j => f (3 + j)))), (se, .inl (G.2.1, 3, .inl f)), (l0, .inr (1, [.ref l0w, .ref l0b, .int (nI (nn f 79)), .int (fLw f 0)])), (l1, .inr (1, [.ref l1w, .ref l1b, .int (nI (nn f 88)), .int (fLw f 1)])), (wi, .inr (4, [.ref ww, .int (f 47), .int (f 48), .int (f 49)])), (ww, .inl (G.2.1, 20, .inl (fun j => f (27 + j))))] H)) (PQ (some (.int (fTen f k)))) 0 0 noA := by
  refine ofB (cc := cX3_tensionOf) (maxL := 2) (ret := (some .int)) (by decide) rfl (Nat.le_of_ble_eq_true rfl) ?_
  intro p e s m below meth c hx hb hr hlocks hml hown hin hts hE hI ls hl
  replace hown : s.vm.findClass RX3 = some m.cls := hown
  have hl : lv_has ls 2 [(0, .ref sa), (1, .int (nI k))] := hl
  have hP : va_P G.1 vwCl [(sa, .inr (3, [.ref cu, .ref se, .ref b0, .ref b1, .ref l0, .ref l1, .ref wi, .int (f 50), .int (f 51), .int (f 52), .int (f 53), .int (f 54), .int (f 55), .int (f 56)])), (cu, .inl (G.2.1, 24, .inl (fun j => f (3 + j)))), (se, .inl (G.2.1, 3, .inl f)), (l0, .inr (1, [.ref l0w, .ref l0b, .int (nI (nn f 79)), .int (fLw f 0)])), (l1, .inr (1, [.ref l1w, .ref l1b, .int (nI (nn f 88)), .int (fLw f 1)])), (wi, .inr (4, [.ref ww, .int (f 47), .int (f 48), .int (f 49)])), (ww, .inl (G.2.1, 20, .inl (fun j => f (27 + j))))] s.heap := hI
  have w_0 : ∀ w ∈ u_ws RX3 TX3 14, w ∈ wsX3_tensionOf := by decide +kernel
  have w_1 := hts (.fieldLink RX3 46 "CableFerry$State" "wire" "LCableFerry$Wire;") (by decide +kernel)
  skip
  refine lv_aload_n hx hb dX3_tensionOf_0 rfl (lv_at hl 0 rfl) ?_
  refine va_get (D := G.1) (ci := 3) (v := .ref wi) (C := RX3) (T := TX3) (N := 14) hx hb hts w_0 hown hE.1 hP 0 rfl rfl 6 (by decide) w_1 (fun _ h9 => h9) rfl dX3_tensionOf_1 ?_
  refine lv_iload_n hx hb dX3_tensionOf_4 rfl (lv_at hl 1 rfl) ?_
  refine lv_aload_n hx hb dX3_tensionOf_5 rfl (lv_at hl 0 rfl) ?_
  refine lv_iconst (v := nI 0) hx hb dX3_tensionOf_6 (by decide +kernel) ?_
  refine pcall (st1 := [.int (f (3 + (nn f 50 + 0) % 24)), .int (nI k), .ref wi]) (va_runV (As := [.int (nI 0)]) (rest := [.int (nI k), .ref wi]) ⟨hx, hb, hml, hown, hts⟩ (c_X3_currentAhead l G sa cu se b0 b1 l0 l0w l0b l1 l1w l1b wi ww f hs 0 (by omega)) (cwV 1 hts gX3_tensionOf_X3_currentAhead rfl rfl rfl (by decide +kernel) ⟨Nat.le_of_ble_eq_true rfl, Nat.le_of_ble_eq_true rfl⟩) (PC.preV hE (va_recv hE.1 hP (ci := 3) (q0 := 0) rfl rfl) (hP.sub [0, 1, 2, 3, 4, 5, 6] rfl)) rfl rfl hl.1 rfl (lv_room (Nat.le_of_ble_eq_true rfl)) dX3_tensionOf_7 ⟨Nat.zero_le _, Nat.zero_le _⟩) rfl ?_
  refine tI (y := f (3 + nn f 50 % 24)) (rfl) ?_
  refine lv_aload_n hx hb dX3_tensionOf_10 rfl (lv_at hl 0 rfl) ?_
  refine pcall (st1 := [.int (fLw f 0 + fLw f 1), .int (f (3 + nn f 50 % 24)), .int (nI k), .ref wi]) (va_runV (As := []) (rest := [.int (f (3 + nn f 50 % 24)), .int (nI k), .ref wi]) ⟨hx, hb, hml, hown, hts⟩ (c_X3_weightOnDeck l G sa cu se b0 b1 l0 l0w l0b l1 l1w l1b wi ww f) (cwV 0 hts gX3_tensionOf_X3_weightOnDeck rfl rfl rfl (by decide +kernel) ⟨Nat.le_of_ble_eq_true rfl, Nat.le_of_ble_eq_true rfl⟩) (PC.preV hE (va_recv hE.1 hP (ci := 3) (q0 := 0) rfl rfl) (hP.sub [0, 1, 2, 3, 4, 5, 6] rfl)) rfl rfl hl.1 rfl (lv_room (Nat.le_of_ble_eq_true rfl)) dX3_tensionOf_11 ⟨Nat.zero_le _, Nat.zero_le _⟩) rfl ?_
  refine lv_aload_n hx hb dX3_tensionOf_14 rfl (lv_at hl 0 rfl) ?_
  refine pcall (st1 := [.int (fLst f), .int (fLw f 0 + fLw f 1), .int (f (3 + nn f 50 % 24)), .int (nI k), .ref wi]) (va_runV (As := []) (rest := [.int (fLw f 0 + fLw f 1), .int (f (3 + nn f 50 % 24)), .int (nI k), .ref wi]) ⟨hx, hb, hml, hown, hts⟩ (c_X3_list l G sa cu se b0 b1 l0 l0w l0b l1 l1w l1b wi ww f) (cwV 0 hts gX3_tensionOf_X3_list rfl rfl rfl (by decide +kernel) ⟨Nat.le_of_ble_eq_true rfl, Nat.le_of_ble_eq_true rfl⟩) (PC.preV hE (va_recv hE.1 hP (ci := 3) (q0 := 0) rfl rfl) (hP.sub [0, 1, 2, 3, 4, 5, 6] rfl)) rfl rfl hl.1 rfl (lv_room (Nat.le_of_ble_eq_true rfl)) dX3_tensionOf_15 ⟨Nat.zero_le _, Nat.zero_le _⟩) rfl ?_
  refine pcall (st1 := [.int (fTby f k (f (3 + nn f 50 % 24)) (fLst f) (fLw f 0 + fLw f 1))]) (va_runV (As := [.int (nI k), .int (f (3 + nn f 50 % 24)), .int (fLw f 0 + fLw f 1), .int (fLst f)]) (rest := []) ⟨hx, hb, hml, hown, hts⟩ (c_X4_tensionOf l G wi ww f (f 48) (f 49) k (by omega) (f (3 + nn f 50 % 24)) (fLw f 0 + fLw f 1) (fLst f)) (cwV 4 hts gX3_tensionOf_X4_tensionOf rfl rfl rfl (by decide +kernel) ⟨Nat.le_of_ble_eq_true rfl, Nat.le_of_ble_eq_true rfl⟩) (PC.preV hE (va_recv hE.1 hP (ci := 4) (q0 := 5) rfl rfl) (hP.sub [5] rfl)) rfl rfl hl.1 rfl (lv_room (Nat.le_of_ble_eq_true rfl)) dX3_tensionOf_18 ⟨Nat.zero_le _, Nat.zero_le _⟩) rfl ?_
  refine tS (st' := [.int (fTen f k)]) (congrArg (fun z => [Value.int z]) (rfl)) ?_
  exact W.iret hx hb hr (fun t ht hW => ⟨rfl, ht⟩) (fun _ h => nomatch h) dX3_tensionOf_21
set_option maxHeartbeats 4000000 in
set_option maxRecDepth 100000 in
theorem c_X3_reserveOf (l : Launch) (G : eG) (sa cu se b0 b1 l0 l0w l0b l1 l1w l1b wi ww : Nat) (f : Nat → Int32) (hs : Shp f) (k : Nat) (hk : k < 20) : Met l yX3_reserveOf wsX3_reserveOf ({ frames := 3, cells := 0, slots := 0, locals := 68 }) (PC [.ref sa, .int (nI k)] G (fun H => va_P G.1 vwCl [(sa, .inr (3, [.ref cu, .ref se, .ref b0, .ref b1, .ref l0, .ref l1, .ref wi, .int (f 50), .int (f 51), .int (f 52), .int (f 53), .int (f 54), .int (f 55), .int (f 56)])), (cu, .inl (G.2.1, 24, .inl (fun j => f (3 + j)))), (se, .inl (G.2.1, 3, .inl f)), (l0, .inr (1, [.ref l0w, .ref l0b, .int (nI (nn f 79)), .int (fLw f 0)])), (l1, .inr (1, [.ref l1w, .ref l1b, .int (nI (nn f 88)), .int (fLw f 1)])), (wi, .inr (4, [.ref ww, .int (f 47), .int (f 48), .int (f 49)])), (ww, .inl (G.2.1, 20, .inl (fun j => f (27 + j))))] H)) (PQ (some (.int (fRes f k)))) 0 0 noA := by
  refine ofB (cc := cX3_reserveOf) (maxL := 2) (ret := (some .int)) (by decide) rfl (Nat.le_of_ble_eq_true rfl) ?_
  intro p e s m below meth c hx hb hr hlocks hml hown hin hts hE hI ls hl
  replace hown : s.vm.findClass RX3 = some m.cls := hown
  have hl : lv_has ls 2 [(0, .ref sa), (1, .int (nI k))] := hl
  have hP : va_P G.1 vwCl [(sa, .inr (3, [.ref cu, .ref se, .ref b0, .ref b1, .ref l0, .ref l1, .ref wi, .int (f 50), .int (f 51), .int (f 52), .int (f 53), .int (f 54), .int (f 55), .int (f 56)])), (cu, .inl (G.2.1, 24, .inl (fun j => f (3 + j)))), (se, .inl (G.2.1, 3, .inl f)), (l0, .inr (1, [.ref l0w, .ref l0b, .int (nI (nn f 79)), .int (fLw f 0)])), (l1, .inr (1, [.ref l1w, .ref l1b, .int (nI (nn f 88)), .int (fLw f 1)])), (wi, .inr (4, [.ref ww, .int (f 47), .int (f 48), .int (f 49)])), (ww, .inl (G.2.1, 20, .inl (fun j => f (27 + j))))] s.heap := hI
  skip
  refine lv_aload_n hx hb dX3_reserveOf_0 rfl (lv_at hl 0 rfl) ?_
  refine lv_iload_n hx hb dX3_reserveOf_1 rfl (lv_at hl 1 rfl) ?_
  refine pcall (st1 := [.int (fStr f k)]) (va_runV (As := [.int (nI k)]) (rest := []) ⟨hx, hb, hml, hown, hts⟩ (c_X3_strengthOf l G sa cu se b0 b1 l0 l0w l0b l1 l1w l1b wi ww f k (by omega)) (cwV 1 hts gX3_reserveOf_X3_strengthOf rfl rfl rfl (by decide +kernel) ⟨Nat.le_of_ble_eq_true rfl, Nat.le_of_ble_eq_true rfl⟩) (PC.preV hE (va_recv hE.1 hP (ci := 3) (q0 := 0) rfl rfl) (hP.sub [0, 1, 2, 3, 4, 5, 6] rfl)) rfl rfl hl.1 rfl (lv_room (Nat.le_of_ble_eq_true rfl)) dX3_reserveOf_2 ⟨Nat.zero_le _, Nat.zero_le _⟩) rfl ?_
  refine lv_aload_n hx hb dX3_reserveOf_5 rfl (lv_at hl 0 rfl) ?_
  refine lv_iload_n hx hb dX3_reserveOf_6 rfl (lv_at hl 1 rfl) ?_
  refine pcall (st1 := [.int (fTen f k), .int (fStr f k)]) (va_runV (As := [.int (nI k)]) (rest := [.int (fStr f k)]) ⟨hx, hb, hml, hown, hts⟩ (c_X3_tensionOf l G sa cu se b0 b1 l0 l0w l0b l1 l1w l1b wi ww f hs k (by omega)) (cwV 1 hts gX3_reserveOf_X3_tensionOf rfl rfl rfl (by decide +kernel) ⟨Nat.le_of_ble_eq_true rfl, Nat.le_of_ble_eq_true rfl⟩) (PC.preV hE (va_recv hE.1 hP (ci := 3) (q0 := 0) rfl rfl) (hP.sub [0, 1, 2, 3, 4, 5, 6] rfl)) rfl rfl hl.1 rfl (lv_room (Nat.le_of_ble_eq_true rfl)) dX3_reserveOf_7 ⟨Nat.zero_le _, Nat.zero_le _⟩) rfl ?_
  refine lv_isub hx hb dX3_reserveOf_10 ?_
  refine tS (st' := [.int (fRes f k)]) (congrArg (fun z => [Value.int z]) (rfl)) ?_
  exact W.iret hx hb hr (fun t ht hW => ⟨rfl, ht⟩) (fun _ h => nomatch h) dX3_reserveOf_11
set_option maxHeartbeats 4000000 in
set_option maxRecDepth 100000 in
theorem c_X3_greatestTension (l : Launch) (G : eG) (sa cu se b0 b1 l0 l0w l0b l1 l1w l1b wi ww : Nat) (f : Nat → Int32) (hs : Shp f) (h : Nat) (hh : h < 24) : Met l yX3_greatestTension wsX3_greatestTension ({ frames := 3, cells := 0, slots := 0, locals := 72 }) (PC [.ref sa, .int (nI h)] G (fun H => va_P G.1 vwCl [(sa, .inr (3, [.ref cu, .ref se, .ref b0, .ref b1, .ref l0, .ref l1, .ref wi, .int (f 50), .int (f 51), .int (f 52), .int (f 53), .int (f 54), .int (f 55), .int (f 56)])), (cu, .inl (G.2.1, 24, .inl (fun j => f (3 + j)))), (se, .inl (G.2.1, 3, .inl f)), (l0, .inr (1, [.ref l0w, .ref l0b, .int (nI (nn f 79)), .int (fLw f 0)])), (l1, .inr (1, [.ref l1w, .ref l1b, .int (nI (nn f 88)), .int (fLw f 1)])), (wi, .inr (4, [.ref ww, .int (f 47), .int (f 48), .int (f 49)])), (ww, .inl (G.2.1, 20, .inl (fun j => f (27 + j))))] H)) (PQ (some (.int (gH f h)))) 0 0 noA := by
  refine ofB (cc := cX3_greatestTension) (maxL := 2) (ret := (some .int)) (by decide) rfl (Nat.le_of_ble_eq_true rfl) ?_
  intro p e s m below meth c hx hb hr hlocks hml hown hin hts hE hI ls hl
  replace hown : s.vm.findClass RX3 = some m.cls := hown
  have hl : lv_has ls 2 [(0, .ref sa), (1, .int (nI h))] := hl
  have hP : va_P G.1 vwCl [(sa, .inr (3, [.ref cu, .ref se, .ref b0, .ref b1, .ref l0, .ref l1, .ref wi, .int (f 50), .int (f 51), .int (f 52), .int (f 53), .int (f 54), .int (f 55), .int (f 56)])), (cu, .inl (G.2.1, 24, .inl (fun j => f (3 + j)))), (se, .inl (G.2.1, 3, .inl f)), (l0, .inr (1, [.ref l0w, .ref l0b, .int (nI (nn f 79)), .int (fLw f 0)])), (l1, .inr (1, [.ref l1w, .ref l1b, .int (nI (nn f 88)), .int (fLw f 1)])), (wi, .inr (4, [.ref ww, .int (f 47), .int (f 48), .int (f 49)])), (ww, .inl (G.2.1, 20, .inl (fun j => f (27 + j))))] s.heap := hI
  have w_0 : ∀ w ∈ u_ws RX3 TX3 14, w ∈ wsX3_greatestTension := by decide +kernel
  have w_1 := hts (.fieldLink RX3 46 "CableFerry$State" "wire" "LCableFerry$Wire;") (by decide +kernel)
  skip
  refine lv_aload_n hx hb dX3_greatestTension_0 rfl (lv_at hl 0 rfl) ?_
  refine va_get (D := G.1) (ci := 3) (v := .ref wi) (C := RX3) (T := TX3) (N := 14) hx hb hts w_0 hown hE.1 hP 0 rfl rfl 6 (by decide) w_1 (fun _ h9 => h9) rfl dX3_greatestTension_1 ?_
  refine lv_aload_n hx hb dX3_greatestTension_4 rfl (lv_at hl 0 rfl) ?_
  refine lv_iload_n hx hb dX3_greatestTension_5 rfl (lv_at hl 1 rfl) ?_
  refine pcall (st1 := [.int (f (3 + (nn f 50 + h) % 24)), .ref wi]) (va_runV (As := [.int (nI h)]) (rest := [.ref wi]) ⟨hx, hb, hml, hown, hts⟩ (c_X3_currentAhead l G sa cu se b0 b1 l0 l0w l0b l1 l1w l1b wi ww f hs h (by omega)) (cwV 1 hts gX3_greatestTension_X3_currentAhead rfl rfl rfl (by decide +kernel) ⟨Nat.le_of_ble_eq_true rfl, Nat.le_of_ble_eq_true rfl⟩) (PC.preV hE (va_recv hE.1 hP (ci := 3) (q0 := 0) rfl rfl) (hP.sub [0, 1, 2, 3, 4, 5, 6] rfl)) rfl rfl hl.1 rfl (lv_room (Nat.le_of_ble_eq_true rfl)) dX3_greatestTension_6 ⟨Nat.zero_le _, Nat.zero_le _⟩) rfl ?_
  refine lv_aload_n hx hb dX3_greatestTension_9 rfl (lv_at hl 0 rfl) ?_
  refine pcall (st1 := [.int (fLw f 0 + fLw f 1), .int (f (3 + (nn f 50 + h) % 24)), .ref wi]) (va_runV (As := []) (rest := [.int (f (3 + (nn f 50 + h) % 24)), .ref wi]) ⟨hx, hb, hml, hown, hts⟩ (c_X3_weightOnDeck l G sa cu se b0 b1 l0 l0w l0b l1 l1w l1b wi ww f) (cwV 0 hts gX3_greatestTension_X3_weightOnDeck rfl rfl rfl (by decide +kernel) ⟨Nat.le_of_ble_eq_true rfl, Nat.le_of_ble_eq_true rfl⟩) (PC.preV hE (va_recv hE.1 hP (ci := 3) (q0 := 0) rfl rfl) (hP.sub [0, 1, 2, 3, 4, 5, 6] rfl)) rfl rfl hl.1 rfl (lv_room (Nat.le_of_ble_eq_true rfl)) dX3_greatestTension_10 ⟨Nat.zero_le _, Nat.zero_le _⟩) rfl ?_
  refine lv_aload_n hx hb dX3_greatestTension_13 rfl (lv_at hl 0 rfl) ?_
  refine pcall (st1 := [.int (fLst f), .int (fLw f 0 + fLw f 1), .int (f (3 + (nn f 50 + h) % 24)), .ref wi]) (va_runV (As := []) (rest := [.int (fLw f 0 + fLw f 1), .int (f (3 + (nn f 50 + h) % 24)), .ref wi]) ⟨hx, hb, hml, hown, hts⟩ (c_X3_list l G sa cu se b0 b1 l0 l0w l0b l1 l1w l1b wi ww f) (cwV 0 hts gX3_greatestTension_X3_list rfl rfl rfl (by decide +kernel) ⟨Nat.le_of_ble_eq_true rfl, Nat.le_of_ble_eq_true rfl⟩) (PC.preV hE (va_recv hE.1 hP (ci := 3) (q0 := 0) rfl rfl) (hP.sub [0, 1, 2, 3, 4, 5, 6] rfl)) rfl rfl hl.1 rfl (lv_room (Nat.le_of_ble_eq_true rfl)) dX3_greatestTension_14 ⟨Nat.zero_le _, Nat.zero_le _⟩) rfl ?_
  refine pcall (st1 := [.int (fGre f (f (3 + (nn f 50 + h) % 24)) (fLst f) (fLw f 0 + fLw f 1))]) (va_runV (As := [.int (f (3 + (nn f 50 + h) % 24)), .int (fLw f 0 + fLw f 1), .int (fLst f)]) (rest := []) ⟨hx, hb, hml, hown, hts⟩ (c_X4_greatestTension l G wi ww f (f 48) (f 49) (f (3 + (nn f 50 + h) % 24)) (fLw f 0 + fLw f 1) (fLst f)) (cwV 3 hts gX3_greatestTension_X4_greatestTension rfl rfl rfl (by decide +kernel) ⟨Nat.le_of_ble_eq_true rfl, Nat.le_of_ble_eq_true rfl⟩) (PC.preV hE (va_recv hE.1 hP (ci := 4) (q0 := 5) rfl rfl) (hP.sub [5] rfl)) rfl rfl hl.1 rfl (lv_room (Nat.le_of_ble_eq_true rfl)) dX3_greatestTension_17 ⟨Nat.zero_le _, Nat.zero_le _⟩) rfl ?_
  refine tS (st' := [.int (gH f h)]) (congrArg (fun z => [Value.int z]) (rfl)) ?_
  exact W.iret hx hb hr (fun t ht hW => ⟨rfl, ht⟩) (fun _ h => nomatch h) dX3_greatestTension_20
set_option maxHeartbeats 4000000 in
set_option maxRecDepth 100000 in
theorem c_X3_reason (l : Launch) (G : eG) (sa cu se b0 b1 l0 l0w l0b l1 l1w l1b wi ww : Nat) (f : Nat → Int32) (hs : Shp f) : Met l yX3_reason wsX3_reason ({ frames := 3, cells := 0, slots := 0, locals := 72 }) (PC [.ref sa] G (fun H => va_P G.1 vwCl [(sa, .inr (3, [.ref cu, .ref se, .ref b0, .ref b1, .ref l0, .ref l1, .ref wi, .int (f 50), .int (f 51), .int (f 52), .int (f 53), .int (f 54), .int (f 55), .int (f 56)])), (cu, .inl (G.2.1, 24, .inl (fun j => f (3 + j)))), (se, .inl (G.2.1, 3, .inl f)), (l0, .inr (1, [.ref l0w, .ref l0b, .int (nI (nn f 79)), .int (fLw f 0)])), (l1, .inr (1, [.ref l1w, .ref l1b, .int (nI (nn f 88)), .int (fLw f 1)])), (wi, .inr (4, [.ref ww, .int (f 47), .int (f 48), .int (f 49)])), (ww, .inl (G.2.1, 20, .inl (fun j => f (27 + j))))] H)) (PQ (some (.int (fRsn f)))) 0 0 noA := by
  refine ofB (cc := cX3_reason) (maxL := 2) (ret := (some .int)) (by decide) rfl (Nat.le_of_ble_eq_true rfl) ?_
  intro p e s m below meth c hx hb hr hlocks hml hown hin hts hE hI ls hl
  replace hown : s.vm.findClass RX3 = some m.cls := hown
  have hl : lv_has ls 2 [(0, .ref sa)] := hl
  have hP : va_P G.1 vwCl [(sa, .inr (3, [.ref cu, .ref se, .ref b0, .ref b1, .ref l0, .ref l1, .ref wi, .int (f 50), .int (f 51), .int (f 52), .int (f 53), .int (f 54), .int (f 55), .int (f 56)])), (cu, .inl (G.2.1, 24, .inl (fun j => f (3 + j)))), (se, .inl (G.2.1, 3, .inl f)), (l0, .inr (1, [.ref l0w, .ref l0b, .int (nI (nn f 79)), .int (fLw f 0)])), (l1, .inr (1, [.ref l1w, .ref l1b, .int (nI (nn f 88)), .int (fLw f 1)])), (wi, .inr (4, [.ref ww, .int (f 47), .int (f 48), .int (f 49)])), (ww, .inl (G.2.1, 20, .inl (fun j => f (27 + j))))] s.heap := hI
  have w_0 : ∀ w ∈ u_ws RX3 TX3 14, w ∈ wsX3_reason := by decide +kernel
  have w_1 := hts (.fieldLink RX3 15 "CableFerry$State" "settings" "[I") (by decide +kernel)
  have w_2 := hts (.static yX5_at) (by decide +kernel)
  have w_3 := hts (.fieldLink RX3 46 "CableFerry$State" "wire" "LCableFerry$Wire;") (by decide +kernel)
  have w_4 : ∀ w ∈ u_ws RX4 TX4 4, w ∈ wsX3_reason := by decide +kernel
  have w_5 := hts (.fieldLink RX3 124 "CableFerry$Wire" "slack" "I") (by decide +kernel)
  skip
  refine lv_aload_n hx hb dX3_reason_0 rfl (lv_at hl 0 rfl) ?_
  refine pcall (st1 := [.int (fLst f)]) (va_runV (As := []) (rest := []) ⟨hx, hb, hml, hown, hts⟩ (c_X3_list l G sa cu se b0 b1 l0 l0w l0b l1 l1w l1b wi ww f) (cwV 0 hts gX3_reason_X3_list rfl rfl rfl (by decide +kernel) ⟨Nat.le_of_ble_eq_true rfl, Nat.le_of_ble_eq_true rfl⟩) (PC.preV hE (va_recv hE.1 hP (ci := 3) (q0 := 0) rfl rfl) (hP.sub [0, 1, 2, 3, 4, 5, 6] rfl)) rfl rfl hl.1 rfl (lv_room (Nat.le_of_ble_eq_true rfl)) dX3_reason_1 ⟨Nat.zero_le _, Nat.zero_le _⟩) rfl ?_
  refine lv_aload_n hx hb dX3_reason_4 rfl (lv_at hl 0 rfl) ?_
  refine va_get (D := G.1) (ci := 3) (v := .ref se) (C := RX3) (T := TX3) (N := 14) hx hb hts w_0 hown hE.1 hP 0 rfl rfl 1 (by decide) w_1 (fun _ h9 => h9) rfl dX3_reason_5 ?_
  refine lv_iconst (v := nI 1) hx hb dX3_reason_8 (by decide +kernel) ?_
  refine pcall (st1 := [.int (f 1), .int (fLst f)]) (va_runSN (As := [.ref se, .int (nI 1)]) (rest := [.int (fLst f)]) ⟨hx, hb, hml, hown, hts⟩ (c_X5_at l G se 3 f 1 (by omega) (by decide)) ⟨va_cnB 2 hts gX3_reason_X5_at_n96 rfl rfl rfl (hE.2 (RX3, 96, yX5_at) (by decide +kernel)) (hts (.initialized RX5) (by decide +kernel)) (by decide +kernel) ⟨Nat.le_of_ble_eq_true rfl, Nat.le_of_ble_eq_true rfl⟩, w_2, trivial⟩ (PC.preS hE (hP.sub [2] rfl)) rfl rfl hl.1 rfl (lv_room (Nat.le_of_ble_eq_true rfl)) dX3_reason_9 ⟨Nat.zero_le _, Nat.zero_le _⟩) rfl ?_
  refine lv_icmp_le (tgt := 17) hx hb dX3_reason_12 (by decide) (fun c12 => ?_) (fun c12 => ?_)
  · skip
    refine lv_aload_n hx hb dX3_reason_17 rfl (lv_at hl 0 rfl) ?_
    refine va_get (D := G.1) (ci := 3) (v := .ref wi) (C := RX3) (T := TX3) (N := 14) hx hb hts w_0 hown hE.1 hP 0 rfl rfl 6 (by decide) w_3 (fun _ h9 => h9) rfl dX3_reason_18 ?_
    refine va_get (D := G.1) (ci := 4) (v := .int (f 47)) (C := RX4) (T := TX4) (N := 4) hx hb hts w_4 hown hE.1 hP 5 rfl rfl 1 (by decide) w_5 (fun _ h9 => h9) rfl dX3_reason_21 ?_
    refine lv_bipush (v := nI 25) hx hb dX3_reason_24 (by decide +kernel) ?_
    refine lv_icmp_le (tgt := 31) hx hb dX3_reason_26 (by decide) (fun c26 => ?_) (fun c26 => ?_)
    · skip
      refine lv_aload_n hx hb dX3_reason_31 rfl (lv_at hl 0 rfl) ?_
      refine va_get (D := G.1) (ci := 3) (v := .ref wi) (C := RX3) (T := TX3) (N := 14) hx hb hts w_0 hown hE.1 hP 0 rfl rfl 6 (by decide) w_3 (fun _ h9 => h9) rfl dX3_reason_32 ?_
      refine lv_aload_n hx hb dX3_reason_35 rfl (lv_at hl 0 rfl) ?_
      refine lv_iconst (v := nI 0) hx hb dX3_reason_36 (by decide +kernel) ?_
      refine pcall (st1 := [.int (f (3 + (nn f 50 + 0) % 24)), .ref wi]) (va_runV (As := [.int (nI 0)]) (rest := [.ref wi]) ⟨hx, hb, hml, hown, hts⟩ (c_X3_currentAhead l G sa cu se b0 b1 l0 l0w l0b l1 l1w l1b wi ww f hs 0 (by omega)) (cwV 1 hts gX3_reason_X3_currentAhead rfl rfl rfl (by decide +kernel) ⟨Nat.le_of_ble_eq_true rfl, Nat.le_of_ble_eq_true rfl⟩) (PC.preV hE (va_recv hE.1 hP (ci := 3) (q0 := 0) rfl rfl) (hP.sub [0, 1, 2, 3, 4, 5, 6] rfl)) rfl rfl hl.1 rfl (lv_room (Nat.le_of_ble_eq_true rfl)) dX3_reason_37 ⟨Nat.zero_le _, Nat.zero_le _⟩) rfl ?_
      refine tI (y := f (3 + nn f 50 % 24)) (rfl) ?_
      refine lv_aload_n hx hb dX3_reason_40 rfl (lv_at hl 0 rfl) ?_
      refine pcall (st1 := [.int (fLw f 0 + fLw f 1), .int (f (3 + nn f 50 % 24)), .ref wi]) (va_runV (As := []) (rest := [.int (f (3 + nn f 50 % 24)), .ref wi]) ⟨hx, hb, hml, hown, hts⟩ (c_X3_weightOnDeck l G sa cu se b0 b1 l0 l0w l0b l1 l1w l1b wi ww f) (cwV 0 hts gX3_reason_X3_weightOnDeck rfl rfl rfl (by decide +kernel) ⟨Nat.le_of_ble_eq_true rfl, Nat.le_of_ble_eq_true rfl⟩) (PC.preV hE (va_recv hE.1 hP (ci := 3) (q0 := 0) rfl rfl) (hP.sub [0, 1, 2, 3, 4, 5, 6] rfl)) rfl rfl hl.1 rfl (lv_room (Nat.le_of_ble_eq_true rfl)) dX3_reason_41 ⟨Nat.zero_le _, Nat.zero_le _⟩) rfl ?_
      refine lv_aload_n hx hb dX3_reason_44 rfl (lv_at hl 0 rfl) ?_
      refine pcall (st1 := [.int (fLst f), .int (fLw f 0 + fLw f 1), .int (f (3 + nn f 50 % 24)), .ref wi]) (va_runV (As := []) (rest := [.int (fLw f 0 + fLw f 1), .int (f (3 + nn f 50 % 24)), .ref wi]) ⟨hx, hb, hml, hown, hts⟩ (c_X3_list l G sa cu se b0 b1 l0 l0w l0b l1 l1w l1b wi ww f) (cwV 0 hts gX3_reason_X3_list rfl rfl rfl (by decide +kernel) ⟨Nat.le_of_ble_eq_true rfl, Nat.le_of_ble_eq_true rfl⟩) (PC.preV hE (va_recv hE.1 hP (ci := 3) (q0 := 0) rfl rfl) (hP.sub [0, 1, 2, 3, 4, 5, 6] rfl)) rfl rfl hl.1 rfl (lv_room (Nat.le_of_ble_eq_true rfl)) dX3_reason_45 ⟨Nat.zero_le _, Nat.zero_le _⟩) rfl ?_
      refine lv_aload_n hx hb dX3_reason_48 rfl (lv_at hl 0 rfl) ?_
      refine va_get (D := G.1) (ci := 3) (v := .ref se) (C := RX3) (T := TX3) (N := 14) hx hb hts w_0 hown hE.1 hP 0 rfl rfl 1 (by decide) w_1 (fun _ h9 => h9) rfl dX3_reason_49 ?_
      refine lv_iconst (v := nI 0) hx hb dX3_reason_52 (by decide +kernel) ?_
      refine pcall (st1 := [.int (f 0), .int (fLst f), .int (fLw f 0 + fLw f 1), .int (f (3 + nn f 50 % 24)), .ref wi]) (va_runSN (As := [.ref se, .int (nI 0)]) (rest := [.int (fLst f), .int (fLw f 0 + fLw f 1), .int (f (3 + nn f 50 % 24)), .ref wi]) ⟨hx, hb, hml, hown, hts⟩ (c_X5_at l G se 3 f 0 (by omega) (by decide)) ⟨va_cnB 2 hts gX3_reason_X5_at_n96 rfl rfl rfl (hE.2 (RX3, 96, yX5_at) (by decide +kernel)) (hts (.initialized RX5) (by decide +kernel)) (by decide +kernel) ⟨Nat.le_of_ble_eq_true rfl, Nat.le_of_ble_eq_true rfl⟩, w_2, trivial⟩ (PC.preS hE (hP.sub [2] rfl)) rfl rfl hl.1 rfl (lv_room (Nat.le_of_ble_eq_true rfl)) dX3_reason_53 ⟨Nat.zero_le _, Nat.zero_le _⟩) rfl ?_
      refine pcall (st1 := [.int (b2 (fBears f 20 = true))]) (va_runV (As := [.int (f (3 + nn f 50 % 24)), .int (fLw f 0 + fLw f 1), .int (fLst f), .int (f 0)]) (rest := []) ⟨hx, hb, hml, hown, hts⟩ (c_X4_canBear l G wi ww f) (cwV 4 hts gX3_reason_X4_canBear rfl rfl rfl (by decide +kernel) ⟨Nat.le_of_ble_eq_true rfl, Nat.le_of_ble_eq_true rfl⟩) (PC.preV hE (va_recv hE.1 hP (ci := 4) (q0 := 5) rfl rfl) (hP.sub [5, 6] rfl)) rfl rfl hl.1 rfl (lv_room (Nat.le_of_ble_eq_true rfl)) dX3_reason_56 ⟨Nat.zero_le _, Nat.zero_le _⟩) rfl ?_
      refine lv_istore_n (lv' := [(1, .int (b2 (fBears f 20 = true))), (0, .ref sa)]) hx hb dX3_reason_59 rfl hl (by decide) rfl (fun ls hl => ?_)
      refine lv_iload_n hx hb dX3_reason_60 rfl (lv_at hl 0 rfl) ?_
      refine cutL (σ := Int32) (n := 2) (pc1 := 69) (fun r => r = if fBears f 20 = true then nI 0 else nI 3) (fun r => [(1, .int (b2 (fBears f 20 = true))), (0, .ref sa)]) (fun r => [.int r]) ?_ (fun J69 => ?_)
      · rintro r ls hI hl
        replace hI : r = if fBears f 20 = true then nI 0 else nI 3 := hI
        subst hI
        have hl : lv_has ls 2 [(1, .int (b2 (fBears f 20 = true))), (0, .ref sa)] := hl
        refine tS (st' := [.int (if fBears f 20 = true then nI 0 else nI 3)]) rfl ?_
        refine tS (st' := [.int (fRsn f)]) (congrArg (fun z => [Value.int z]) (by unfold fRsn; rw [if_pos c12, if_pos c26])) ?_
        exact W.iret hx hb hr (fun t ht hW => ⟨rfl, ht⟩) (fun _ h => nomatch h) dX3_reason_69
      · skip
        refine lv_if_eq (tgt := 68) hx hb dX3_reason_61 (by decide) (fun c61 => ?_) (fun c61 => ?_)
        · skip
          refine lv_iconst (v := nI 3) hx hb dX3_reason_68 (by decide +kernel) ?_
          exact J69 (nI 3) _ (by (try simp only [i_lt, Classical.not_not, b2_0, b2_1] at c12); (try simp only [i_lt, Classical.not_not, b2_0, b2_1] at c26); (try simp only [i_lt, Classical.not_not, b2_0, b2_1] at c61); simp [b2, c12, c26, c61]) (lv_sub hl [0, 1] rfl)
        · skip
          refine lv_iconst (v := nI 0) hx hb dX3_reason_64 (by decide +kernel) ?_
          refine lv_goto (tgt := 69) hx hb dX3_reason_65 (by decide) ?_
          exact J69 (nI 0) _ (by (try simp only [i_lt, Classical.not_not, b2_0, b2_1] at c12); (try simp only [i_lt, Classical.not_not, b2_0, b2_1] at c26); (try simp only [i_lt, Classical.not_not, b2_0, b2_1] at c61); simp [b2, c12, c26, c61]) (lv_sub hl [0, 1] rfl)
    · skip
      refine lv_iconst (v := nI 2) hx hb dX3_reason_29 (by decide +kernel) ?_
      refine tS (st' := [.int (fRsn f)]) (congrArg (fun z => [Value.int z]) (by unfold fRsn; rw [if_pos c12, if_neg c26])) ?_
      exact W.iret hx hb hr (fun t ht hW => ⟨rfl, ht⟩) (fun _ h => nomatch h) dX3_reason_30
  · skip
    refine lv_iconst (v := nI 1) hx hb dX3_reason_15 (by decide +kernel) ?_
    refine tS (st' := [.int (fRsn f)]) (congrArg (fun z => [Value.int z]) (by unfold fRsn; rw [if_neg c12])) ?_
    exact W.iret hx hb hr (fun t ht hW => ⟨rfl, ht⟩) (fun _ h => nomatch h) dX3_reason_16
set_option maxHeartbeats 4000000 in
set_option maxRecDepth 100000 in
theorem c_X3_canDrawThrough (l : Launch) (G : eG) (sa cu se b0 b1 l0 l0w l0b l1 l1w l1b wi ww : Nat) (f : Nat → Int32) (n : Nat) (hd : rg f 49 40) (hn5 : n < 1000) : Met l yX3_canDrawThrough wsX3_canDrawThrough ({ frames := 0, cells := 0, slots := 0, locals := 0 }) (PC [.ref sa, .int (nI n)] G (fun H => va_P G.1 vwCl [(sa, .inr (3, [.ref cu, .ref se, .ref b0, .ref b1, .ref l0, .ref l1, .ref wi, .int (f 50), .int (f 51), .int (f 52), .int (f 53), .int (f 54), .int (f 55), .int (f 56)])), (cu, .inl (G.2.1, 24, .inl (fun j => f (3 + j)))), (se, .inl (G.2.1, 3, .inl f)), (l0, .inr (1, [.ref l0w, .ref l0b, .int (nI (nn f 79)), .int (fLw f 0)])), (l1, .inr (1, [.ref l1w, .ref l1b, .int (nI (nn f 88)), .int (fLw f 1)])), (wi, .inr (4, [.ref ww, .int (f 47), .int (f 48), .int (f 49)])), (ww, .inl (G.2.1, 20, .inl (fun j => f (27 + j))))] H)) (PQ (some (.int (b2 (n ≤ nn f 49))))) 0 0 noA := by
  refine ofB (cc := cX3_canDrawThrough) (maxL := 2) (ret := (some .boolean)) (by decide) rfl (Nat.le_of_ble_eq_true rfl) ?_
  intro p e s m below meth c hx hb hr hlocks hml hown hin hts hE hI ls hl
  replace hown : s.vm.findClass RX3 = some m.cls := hown
  have hl : lv_has ls 2 [(0, .ref sa), (1, .int (nI n))] := hl
  have hP : va_P G.1 vwCl [(sa, .inr (3, [.ref cu, .ref se, .ref b0, .ref b1, .ref l0, .ref l1, .ref wi, .int (f 50), .int (f 51), .int (f 52), .int (f 53), .int (f 54), .int (f 55), .int (f 56)])), (cu, .inl (G.2.1, 24, .inl (fun j => f (3 + j)))), (se, .inl (G.2.1, 3, .inl f)), (l0, .inr (1, [.ref l0w, .ref l0b, .int (nI (nn f 79)), .int (fLw f 0)])), (l1, .inr (1, [.ref l1w, .ref l1b, .int (nI (nn f 88)), .int (fLw f 1)])), (wi, .inr (4, [.ref ww, .int (f 47), .int (f 48), .int (f 49)])), (ww, .inl (G.2.1, 20, .inl (fun j => f (27 + j))))] s.heap := hI
  have w_0 : ∀ w ∈ u_ws RX3 TX3 14, w ∈ wsX3_canDrawThrough := by decide +kernel
  have w_1 := hts (.fieldLink RX3 46 "CableFerry$State" "wire" "LCableFerry$Wire;") (by decide +kernel)
  have w_2 : ∀ w ∈ u_ws RX4 TX4 4, w ∈ wsX3_canDrawThrough := by decide +kernel
  have w_3 := hts (.fieldLink RX3 168 "CableFerry$Wire" "drum" "I") (by decide +kernel)
  obtain ⟨hd1, hd2⟩ := hd
  refine lv_iload_n hx hb dX3_canDrawThrough_0 rfl (lv_at hl 1 rfl) ?_
  refine lv_aload_n hx hb dX3_canDrawThrough_1 rfl (lv_at hl 0 rfl) ?_
  refine va_get (D := G.1) (ci := 3) (v := .ref wi) (C := RX3) (T := TX3) (N := 14) hx hb hts w_0 hown hE.1 hP 0 rfl rfl 6 (by decide) w_1 (fun _ h9 => h9) rfl dX3_canDrawThrough_2 ?_
  refine va_get (D := G.1) (ci := 4) (v := .int (f 49)) (C := RX4) (T := TX4) (N := 4) hx hb hts w_2 hown hE.1 hP 5 rfl rfl 3 (by decide) w_3 (fun _ h9 => h9) rfl dX3_canDrawThrough_5 ?_
  refine tI (y := nI (nn f 49)) (hd1) ?_
  refine cutL (σ := Int32) (n := 2) (pc1 := 16) (fun r => r = b2 (n ≤ nn f 49)) (fun r => [(0, .ref sa), (1, .int (nI n))]) (fun r => [.int r]) ?_ (fun J16 => ?_)
  · rintro r ls hI hl
    replace hI : r = b2 (n ≤ nn f 49) := hI
    subst hI
    have hl : lv_has ls 2 [(0, .ref sa), (1, .int (nI n))] := hl
    refine tS (st' := [.int (b2 (n ≤ nn f 49))]) rfl ?_
    exact W.zret hx hb hr (b2_z _) (fun t ht hW => ⟨rfl, ht⟩) (fun _ h => nomatch h) dX3_canDrawThrough_16
  · skip
    refine icmp_gtN (tgt := 15) hx hb (by omega) (by omega) dX3_canDrawThrough_8 (by decide) (fun c8 => ?_) (fun c8 => ?_)
    · skip
      refine lv_iconst (v := nI 0) hx hb dX3_canDrawThrough_15 (by decide +kernel) ?_
      exact J16 (nI 0) _ (by simp only [b2]; split <;> first | rfl | omega) (lv_sub hl [0, 1] rfl)
    · skip
      refine lv_iconst (v := nI 1) hx hb dX3_canDrawThrough_11 (by decide +kernel) ?_
      refine lv_goto (tgt := 16) hx hb dX3_canDrawThrough_12 (by decide) ?_
      exact J16 (nI 1) _ (by simp only [b2]; split <;> first | rfl | omega) (lv_sub hl [0, 1] rfl)
set_option maxHeartbeats 4000000 in
set_option maxRecDepth 100000 in
theorem c_X3_letPass (l : Launch) (G : eG) (sa cu se b0 b1 l0 l1 wi : Nat) (x7 x8 x9 x10 x11 x12 x13 : Int32) (b0w b0b b1w b1b n0 n1 : Nat) (v0 v1 h : Int32) : Met l yX3_letPass wsX3_letPass ({ frames := 1, cells := 0, slots := 0, locals := 20 }) (PC [.ref sa, .int h] G (fun H => va_P G.1 vwCl [(sa, .inr (3, [.ref cu, .ref se, .ref b0, .ref b1, .ref l0, .ref l1, .ref wi, .int x7, .int x8, .int x9, .int x10, .int x11, .int x12, .int x13])), (b0, .inr (1, [.ref b0w, .ref b0b, .int (nI n0), .int v0])), (b1, .inr (1, [.ref b1w, .ref b1b, .int (nI n1), .int v1]))] H ∧ va_D (fun _ => True) [(sa, .inr (3, [.ref cu, .ref se, .ref b0, .ref b1, .ref l0, .ref l1, .ref wi, .int x7, .int x8, .int x9, .int x10, .int x11, .int x12, .int x13])), (b0, .inr (1, [.ref b0w, .ref b0b, .int (nI n0), .int v0])), (b1, .inr (1, [.ref b1w, .ref b1b, .int (nI n1), .int v1]))])) (MV (none) (fun H => va_P G.1 vwCl [(sa, .inr (3, [.ref cu, .ref se, .ref b0, .ref b1, .ref l0, .ref l1, .ref wi, .int (x7 + h), .int x8, .int x9, .int x10, .int x11, .int x12, .int (x13 + h * nI (n0 + n1))])), (b0, .inr (1, [.ref b0w, .ref b0b, .int (nI n0), .int v0])), (b1, .inr (1, [.ref b1w, .ref b1b, .int (nI n1), .int v1]))] H ∧ va_D (inW [(sa, .inr (3, [.ref cu, .ref se, .ref b0, .ref b1, .ref l0, .ref l1, .ref wi, .int x7, .int x8, .int x9, .int x10, .int x11, .int x12, .int x13])), (b0, .inr (1, [.ref b0w, .ref b0b, .int (nI n0), .int v0])), (b1, .inr (1, [.ref b1w, .ref b1b, .int (nI n1), .int v1]))]) [(sa, .inr (3, [.ref cu, .ref se, .ref b0, .ref b1, .ref l0, .ref l1, .ref wi, .int (x7 + h), .int x8, .int x9, .int x10, .int x11, .int x12, .int (x13 + h * nI (n0 + n1))])), (b0, .inr (1, [.ref b0w, .ref b0b, .int (nI n0), .int v0])), (b1, .inr (1, [.ref b1w, .ref b1b, .int (nI n1), .int v1]))]) (inW [(sa, .inr (3, [.ref cu, .ref se, .ref b0, .ref b1, .ref l0, .ref l1, .ref wi, .int x7, .int x8, .int x9, .int x10, .int x11, .int x12, .int x13])), (b0, .inr (1, [.ref b0w, .ref b0b, .int (nI n0), .int v0])), (b1, .inr (1, [.ref b1w, .ref b1b, .int (nI n1), .int v1]))])) 0 0 (inW [(sa, .inr (3, [.ref cu, .ref se, .ref b0, .ref b1, .ref l0, .ref l1, .ref wi, .int x7, .int x8, .int x9, .int x10, .int x11, .int x12, .int x13])), (b0, .inr (1, [.ref b0w, .ref b0b, .int (nI n0), .int v0])), (b1, .inr (1, [.ref b1w, .ref b1b, .int (nI n1), .int v1]))]) := by
  refine ofB (cc := cX3_letPass) (maxL := 2) (ret := none) (by decide) rfl (Nat.le_of_ble_eq_true rfl) ?_
  intro p e s m below meth c hx hb hr hlocks hml hown hin hts hE hI ls hl
  replace hown : s.vm.findClass RX3 = some m.cls := hown
  have hl : lv_has ls 2 [(0, .ref sa), (1, .int h)] := hl
  obtain ⟨hP, hD0⟩ := hI
  have hD : va_D (inW [(sa, .inr (3, [.ref cu, .ref se, .ref b0, .ref b1, .ref l0, .ref l1, .ref wi, .int x7, .int x8, .int x9, .int x10, .int x11, .int x12, .int x13])), (b0, .inr (1, [.ref b0w, .ref b0b, .int (nI n0), .int v0])), (b1, .inr (1, [.ref b1w, .ref b1b, .int (nI n1), .int v1]))]) [(sa, .inr (3, [.ref cu, .ref se, .ref b0, .ref b1, .ref l0, .ref l1, .ref wi, .int x7, .int x8, .int x9, .int x10, .int x11, .int x12, .int x13])), (b0, .inr (1, [.ref b0w, .ref b0b, .int (nI n0), .int v0])), (b1, .inr (1, [.ref b1w, .ref b1b, .int (nI n1), .int v1]))] := D_self hD0
  obtain ⟨A, hAe⟩ : ∃ A, A = inW [(sa, .inr (3, [.ref cu, .ref se, .ref b0, .ref b1, .ref l0, .ref l1, .ref wi, .int x7, .int x8, .int x9, .int x10, .int x11, .int x12, .int x13])), (b0, .inr (1, [.ref b0w, .ref b0b, .int (nI n0), .int v0])), (b1, .inr (1, [.ref b1w, .ref b1b, .int (nI n1), .int v1]))] := ⟨_, rfl⟩
  rw [← hAe] at hD ⊢
  have hS : va_S A s.heap s.heap [] := va_S.rf
  obtain ⟨H, hHe⟩ : ∃ H, H = s.heap := ⟨_, rfl⟩
  obtain ⟨locs, hle⟩ : ∃ q : List Loc, q = [] := ⟨_, rfl⟩
  rw [← hle] at hS ⊢
  have hP : va_P G.1 vwCl [(sa, .inr (3, [.ref cu, .ref se, .ref b0, .ref b1, .ref l0, .ref l1, .ref wi, .int x7, .int x8, .int x9, .int x10, .int x11, .int x12, .int x13])), (b0, .inr (1, [.ref b0w, .ref b0b, .int (nI n0), .int v0])), (b1, .inr (1, [.ref b1w, .ref b1b, .int (nI n1), .int v1]))] H := by rw [hHe]; exact hP
  replace hS : va_S A s.heap H locs := by rw [hHe]; exact hS
  refine tH hHe ?_
  have w_0 : ∀ w ∈ u_ws RX3 TX3 14, w ∈ wsX3_letPass := by decide +kernel
  have w_1 := hts (.fieldLink RX3 57 "CableFerry$State" "hours" "I") (by decide +kernel)
  have w_2 := hts (.fieldLink RX3 76 "CableFerry$State" "hoursWaited" "I") (by decide +kernel)
  have w_3 := hts (.fieldLink RX3 30 "CableFerry$State" "bank0" "LCableFerry$Line;") (by decide +kernel)
  have w_4 := hts (.fieldLink RX3 34 "CableFerry$State" "bank1" "LCableFerry$Line;") (by decide +kernel)
  skip
  refine lv_aload_n hx hb dX3_letPass_0 rfl (lv_at hl 0 rfl) ?_
  refine lv_dup hx hb dX3_letPass_1 rfl ?_
  refine va_get (D := G.1) (ci := 3) (v := .int x7) (C := RX3) (T := TX3) (N := 14) hx hb hts w_0 hown hE.1 hP 0 rfl rfl 7 (by decide) w_1 (fun _ h9 => h9) rfl dX3_letPass_2 ?_
  refine lv_iload_n hx hb dX3_letPass_5 rfl (lv_at hl 1 rfl) ?_
  refine lv_iadd hx hb dX3_letPass_6 ?_
  refine va_put (D := G.1) (ci := 3) (v := .int (x7 + h)) (ty := .int) (C := RX3) (T := TX3) (N := 14) hx hb hts w_0 tyX3 tyX3_ok nmX3 hown hE.1 hP hD hS 0 rfl rfl 7 (by decide) w_1 (fun _ h9 => h9) rfl (by decide +kernel) rfl rfl (Nat.le_of_ble_eq_true rfl) dX3_letPass_7 (fun H locs hP hD hS => ?_)
  have hP : va_P G.1 vwCl [(sa, .inr (3, [.ref cu, .ref se, .ref b0, .ref b1, .ref l0, .ref l1, .ref wi, .int (x7 + h), .int x8, .int x9, .int x10, .int x11, .int x12, .int x13])), (b0, .inr (1, [.ref b0w, .ref b0b, .int (nI n0), .int v0])), (b1, .inr (1, [.ref b1w, .ref b1b, .int (nI n1), .int v1]))] H := hP
  have hD : va_D A [(sa, .inr (3, [.ref cu, .ref se, .ref b0, .ref b1, .ref l0, .ref l1, .ref wi, .int (x7 + h), .int x8, .int x9, .int x10, .int x11, .int x12, .int x13])), (b0, .inr (1, [.ref b0w, .ref b0b, .int (nI n0), .int v0])), (b1, .inr (1, [.ref b1w, .ref b1b, .int (nI n1), .int v1]))] := hD
  refine lv_aload_n hx hb dX3_letPass_10 rfl (lv_at hl 0 rfl) ?_
  refine lv_dup hx hb dX3_letPass_11 rfl ?_
  refine va_get (D := G.1) (ci := 3) (v := .int x13) (C := RX3) (T := TX3) (N := 14) hx hb hts w_0 hown hE.1 hP 0 rfl rfl 13 (by decide) w_2 (fun _ h9 => h9) rfl dX3_letPass_12 ?_
  refine lv_iload_n hx hb dX3_letPass_15 rfl (lv_at hl 1 rfl) ?_
  refine lv_aload_n hx hb dX3_letPass_16 rfl (lv_at hl 0 rfl) ?_
  refine va_get (D := G.1) (ci := 3) (v := .ref b0) (C := RX3) (T := TX3) (N := 14) hx hb hts w_0 hown hE.1 hP 0 rfl rfl 2 (by decide) w_3 (fun _ h9 => h9) rfl dX3_letPass_17 ?_
  refine pcall (st1 := [.int (nI n0), .int h, .int x13, .ref sa]) (va_runV (As := []) (rest := [.int h, .int x13, .ref sa]) ⟨hx, hb, hml, hown, hts⟩ (c_X1_size l G b0 b0w b0b n0 v0) (cwV 0 hts gX3_letPass_X1_size rfl rfl rfl (by decide +kernel) ⟨Nat.le_of_ble_eq_true rfl, Nat.le_of_ble_eq_true rfl⟩) (PC.preV hE (va_recv hE.1 hP (ci := 1) (q0 := 1) rfl rfl) (hP.sub [1] rfl)) rfl rfl hl.1 rfl (lv_room (Nat.le_of_ble_eq_true rfl)) dX3_letPass_20 ⟨Nat.zero_le _, Nat.zero_le _⟩) rfl ?_
  refine lv_aload_n hx hb dX3_letPass_23 rfl (lv_at hl 0 rfl) ?_
  refine va_get (D := G.1) (ci := 3) (v := .ref b1) (C := RX3) (T := TX3) (N := 14) hx hb hts w_0 hown hE.1 hP 0 rfl rfl 3 (by decide) w_4 (fun _ h9 => h9) rfl dX3_letPass_24 ?_
  refine pcall (st1 := [.int (nI n1), .int (nI n0), .int h, .int x13, .ref sa]) (va_runV (As := []) (rest := [.int (nI n0), .int h, .int x13, .ref sa]) ⟨hx, hb, hml, hown, hts⟩ (c_X1_size l G b1 b1w b1b n1 v1) (cwV 0 hts gX3_letPass_X1_size rfl rfl rfl (by decide +kernel) ⟨Nat.le_of_ble_eq_true rfl, Nat.le_of_ble_eq_true rfl⟩) (PC.preV hE (va_recv hE.1 hP (ci := 1) (q0 := 2) rfl rfl) (hP.sub [2] rfl)) rfl rfl hl.1 rfl (lv_room (Nat.le_of_ble_eq_true rfl)) dX3_letPass_27 ⟨Nat.zero_le _, Nat.zero_le _⟩) rfl ?_
  refine iaddN hx hb dX3_letPass_30 ?_
  refine lv_imul hx hb dX3_letPass_31 ?_
  refine lv_iadd hx hb dX3_letPass_32 ?_
  refine va_put (D := G.1) (ci := 3) (v := .int (x13 + (h * (nI (n0 + n1))))) (ty := .int) (C := RX3) (T := TX3) (N := 14) hx hb hts w_0 tyX3 tyX3_ok nmX3 hown hE.1 hP hD hS 0 rfl rfl 13 (by decide) w_2 (fun _ h9 => h9) rfl (by decide +kernel) rfl rfl (Nat.le_of_ble_eq_true rfl) dX3_letPass_33 (fun H locs hP hD hS => ?_)
  have hP : va_P G.1 vwCl [(sa, .inr (3, [.ref cu, .ref se, .ref b0, .ref b1, .ref l0, .ref l1, .ref wi, .int (x7 + h), .int x8, .int x9, .int x10, .int x11, .int x12, .int (x13 + (h * (nI (n0 + n1))))])), (b0, .inr (1, [.ref b0w, .ref b0b, .int (nI n0), .int v0])), (b1, .inr (1, [.ref b1w, .ref b1b, .int (nI n1), .int v1]))] H := hP
  have hD : va_D A [(sa, .inr (3, [.ref cu, .ref se, .ref b0, .ref b1, .ref l0, .ref l1, .ref wi, .int (x7 + h), .int x8, .int x9, .int x10, .int x11, .int x12, .int (x13 + (h * (nI (n0 + n1))))])), (b0, .inr (1, [.ref b0w, .ref b0b, .int (nI n0), .int v0])), (b1, .inr (1, [.ref b1w, .ref b1b, .int (nI n1), .int v1]))] := hD
  exact W.vret hx hb hr (fun t ht hW => ⟨rfl, by rw [ht]; exact ⟨hP, hD⟩, hS.F ht⟩) hS.2.2 dX3_letPass_36

set_option maxHeartbeats 4000000 in
set_option maxRecDepth 100000 in
theorem c_X3_hasRoomFor (l : Launch) (G : eG) (sa cu se b0 b1 l0 l0w l0b l1 l1w l1b wi ww : Nat) (f : Nat → Int32) (hs : Shp f) (v y : Nat) (hv8 : v ≤ 8) (hy : y < 2 ^ v) : Met l yX3_hasRoomFor wsX3_hasRoomFor ({ frames := 1, cells := 0, slots := 0, locals := 20 }) (PC [.ref sa, .int (nI v), .int (nI y)] G (fun H => va_P G.1 vwCl [(sa, .inr (3, [.ref cu, .ref se, .ref b0, .ref b1, .ref l0, .ref l1, .ref wi, .int (f 50), .int (f 51), .int (f 52), .int (f 53), .int (f 54), .int (f 55), .int (f 56)])), (cu, .inl (G.2.1, 24, .inl (fun j => f (3 + j)))), (se, .inl (G.2.1, 3, .inl f)), (l0, .inr (1, [.ref l0w, .ref l0b, .int (nI (nn f 79)), .int (fLw f 0)])), (l1, .inr (1, [.ref l1w, .ref l1b, .int (nI (nn f 88)), .int (fLw f 1)])), (wi, .inr (4, [.ref ww, .int (f 47), .int (f 48), .int (f 49)])), (ww, .inl (G.2.1, 20, .inl (fun j => f (27 + j))))] H)) (PQ (some (.int (b2 (clP f v y))))) 0 0 noA := by
  refine ofB (cc := cX3_hasRoomFor) (maxL := 4) (ret := (some .boolean)) (by decide) rfl (Nat.le_of_ble_eq_true rfl) ?_
  intro p e s m below meth c hx hb hr hlocks hml hown hin hts hE hI ls hl
  replace hown : s.vm.findClass RX3 = some m.cls := hown
  have hl : lv_has ls 4 [(0, .ref sa), (1, .int (nI v)), (2, .int (nI y))] := hl
  have hP : va_P G.1 vwCl [(sa, .inr (3, [.ref cu, .ref se, .ref b0, .ref b1, .ref l0, .ref l1, .ref wi, .int (f 50), .int (f 51), .int (f 52), .int (f 53), .int (f 54), .int (f 55), .int (f 56)])), (cu, .inl (G.2.1, 24, .inl (fun j => f (3 + j)))), (se, .inl (G.2.1, 3, .inl f)), (l0, .inr (1, [.ref l0w, .ref l0b, .int (nI (nn f 79)), .int (fLw f 0)])), (l1, .inr (1, [.ref l1w, .ref l1b, .int (nI (nn f 88)), .int (fLw f 1)])), (wi, .inr (4, [.ref ww, .int (f 47), .int (f 48), .int (f 49)])), (ww, .inl (G.2.1, 20, .inl (fun j => f (27 + j))))] s.heap := hI
  have w_0 : ∀ w ∈ u_ws RX3 TX3 14, w ∈ wsX3_hasRoomFor := by decide +kernel
  have w_1 := hts (.fieldLink RX3 37 "CableFerry$State" "lane0" "LCableFerry$Line;") (by decide +kernel)
  have w_2 := hts (.fieldLink RX3 40 "CableFerry$State" "lane1" "LCableFerry$Line;") (by decide +kernel)
  have n0 : nn f 79 ≤ 4 := (hs.1 0 (by omega)).2
  have n1 : nn f 88 ≤ 4 := (hs.1 1 (by omega)).2
  have hp := (pow9 hv8).2
  have hl8 := lbC_8 v (by omega) y hy
  have hlv := lbC_le (s := y) (k := v)
  refine lv_iload_n hx hb dX3_hasRoomFor_0 rfl (lv_at hl 2 rfl) ?_
  refine pcall (st1 := [.int (nI (lbC y 8))]) (va_runS (As := [.int (nI y)]) (rest := []) ⟨hx, hb, hml, hown, hts⟩ (c_J6_bitCount_0f7a4 l G y (by omega)) (va_cwS 1 hts gX3_hasRoomFor_J6_bitCount_0f7a4 rfl rfl rfl (by decide +kernel) ⟨Nat.le_of_ble_eq_true rfl, Nat.le_of_ble_eq_true rfl⟩) (PC.preS hE P_nil) rfl rfl hl.1 rfl (lv_room (Nat.le_of_ble_eq_true rfl)) dX3_hasRoomFor_1 ⟨Nat.zero_le _, Nat.zero_le _⟩) rfl ?_
  refine tI (y := nI (lbC y v)) (congrArg nI hl8) ?_
  refine lv_istore_n (lv' := [(3, .int (nI (lbC y v))), (0, .ref sa), (1, .int (nI v)), (2, .int (nI y))]) hx hb dX3_hasRoomFor_4 rfl hl (by decide) rfl (fun ls hl => ?_)
  refine lv_aload_n hx hb dX3_hasRoomFor_5 rfl (lv_at hl 1 rfl) ?_
  refine va_get (D := G.1) (ci := 3) (v := .ref l0) (C := RX3) (T := TX3) (N := 14) hx hb hts w_0 hown hE.1 hP 0 rfl rfl 4 (by decide) w_1 (fun _ h9 => h9) rfl dX3_hasRoomFor_6 ?_
  refine pcall (st1 := [.int (nI (nn f 79))]) (va_runV (As := []) (rest := []) ⟨hx, hb, hml, hown, hts⟩ (c_X1_size l G l0 l0w l0b (nn f 79) (fLw f 0)) (cwV 0 hts gX3_hasRoomFor_X1_size rfl rfl rfl (by decide +kernel) ⟨Nat.le_of_ble_eq_true rfl, Nat.le_of_ble_eq_true rfl⟩) (PC.preV hE (va_recv hE.1 hP (ci := 1) (q0 := 3) rfl rfl) (hP.sub [3] rfl)) rfl rfl hl.1 rfl (lv_room (Nat.le_of_ble_eq_true rfl)) dX3_hasRoomFor_9 ⟨Nat.zero_le _, Nat.zero_le _⟩) rfl ?_
  refine lv_iload_n hx hb dX3_hasRoomFor_12 rfl (lv_at hl 2 rfl) ?_
  refine iaddN hx hb dX3_hasRoomFor_13 ?_
  refine lv_iload_n hx hb dX3_hasRoomFor_14 rfl (lv_at hl 0 rfl) ?_
  refine isubN hx hb (by omega) dX3_hasRoomFor_15 ?_
  refine lv_iconst (v := nI 4) hx hb dX3_hasRoomFor_16 (by decide +kernel) ?_
  refine cutL (σ := Int32) (n := 4) (pc1 := 38) (fun r => r = b2 (clP f v y)) (fun r => [(3, .int (nI (lbC y v))), (0, .ref sa), (1, .int (nI v)), (2, .int (nI y))]) (fun r => [.int r]) ?_ (fun J38 => ?_)
  · rintro r ls hI hl
    replace hI : r = b2 (clP f v y) := hI
    subst hI
    have hl : lv_has ls 4 [(3, .int (nI (lbC y v))), (0, .ref sa), (1, .int (nI v)), (2, .int (nI y))] := hl
    refine tS (st' := [.int (b2 (clP f v y))]) rfl ?_
    exact W.zret hx hb hr (b2_z _) (fun t ht hW => ⟨rfl, ht⟩) (fun _ h => nomatch h) dX3_hasRoomFor_38
  · skip
    refine icmp_gtN (tgt := 37) hx hb (by omega) (by omega) dX3_hasRoomFor_17 (by decide) (fun c17 => ?_) (fun c17 => ?_)
    · skip
      refine lv_iconst (v := nI 0) hx hb dX3_hasRoomFor_37 (by decide +kernel) ?_
      exact J38 (nI 0) _ (by simp only [b2, clP]; split <;> first | rfl | omega) (lv_sub hl [0, 1, 2, 3] rfl)
    · skip
      refine lv_aload_n hx hb dX3_hasRoomFor_20 rfl (lv_at hl 1 rfl) ?_
      refine va_get (D := G.1) (ci := 3) (v := .ref l1) (C := RX3) (T := TX3) (N := 14) hx hb hts w_0 hown hE.1 hP 0 rfl rfl 5 (by decide) w_2 (fun _ h9 => h9) rfl dX3_hasRoomFor_21 ?_
      refine pcall (st1 := [.int (nI (nn f 88))]) (va_runV (As := []) (rest := []) ⟨hx, hb, hml, hown, hts⟩ (c_X1_size l G l1 l1w l1b (nn f 88) (fLw f 1)) (cwV 0 hts gX3_hasRoomFor_X1_size rfl rfl rfl (by decide +kernel) ⟨Nat.le_of_ble_eq_true rfl, Nat.le_of_ble_eq_true rfl⟩) (PC.preV hE (va_recv hE.1 hP (ci := 1) (q0 := 4) rfl rfl) (hP.sub [4] rfl)) rfl rfl hl.1 rfl (lv_room (Nat.le_of_ble_eq_true rfl)) dX3_hasRoomFor_24 ⟨Nat.zero_le _, Nat.zero_le _⟩) rfl ?_
      refine lv_iload_n hx hb dX3_hasRoomFor_27 rfl (lv_at hl 0 rfl) ?_
      refine iaddN hx hb dX3_hasRoomFor_28 ?_
      refine lv_iconst (v := nI 4) hx hb dX3_hasRoomFor_29 (by decide +kernel) ?_
      refine icmp_gtN (tgt := 37) hx hb (by omega) (by omega) dX3_hasRoomFor_30 (by decide) (fun c30 => ?_) (fun c30 => ?_)
      · skip
        refine lv_iconst (v := nI 0) hx hb dX3_hasRoomFor_37 (by decide +kernel) ?_
        exact J38 (nI 0) _ (by simp only [b2, clP]; split <;> first | rfl | omega) (lv_sub hl [0, 1, 2, 3] rfl)
      · skip
        refine lv_iconst (v := nI 1) hx hb dX3_hasRoomFor_33 (by decide +kernel) ?_
        refine lv_goto (tgt := 38) hx hb dX3_hasRoomFor_34 (by decide) ?_
        exact J38 (nI 1) _ (by simp only [b2, clP]; split <;> first | rfl | omega) (lv_sub hl [0, 1, 2, 3] rfl)
set_option maxHeartbeats 4000000 in
set_option maxRecDepth 100000 in
theorem c_X3_listOf (l : Launch) (G : eG) (sa cu se b0 b0w b0b b1 b1w b1b l0 l0w l0b l1 l1w l1b wi ww : Nat) (f : Nat → Int32) (v0 v1 : Int32) (w0 d0 w1 d1 w2 d2 w3 d3 : Nat → Int32) (hs : Shp f) (hcp : Cpl f w0 w1 w2 d2 w3 d3) (v y : Nat) (hv8 : v ≤ 8) (hvw : v ≤ nn f (57 + 11 * nn f 51)) (hy : y < 256) : Met l yX3_listOf wsX3_listOf ({ frames := 2, cells := 0, slots := 0, locals := 42 }) (PC [.ref sa, .int (nI v), .int (nI y)] G (fun H => va_P G.1 vwCl [(sa, .inr (3, [.ref cu, .ref se, .ref b0, .ref b1, .ref l0, .ref l1, .ref wi, .int (f 50), .int (f 51), .int (f 52), .int (f 53), .int (f 54), .int (f 55), .int (f 56)])), (cu, .inl (G.2.1, 24, .inl (fun j => f (3 + j)))), (se, .inl (G.2.1, 3, .inl f)), (b0, .inr (1, [.ref b0w, .ref b0b, .int (nI (nn f 57)), .int v0])), (b0w, .inl (G.2.1, 10, .inl w0)), (b0b, .inl (G.2.1, 10, .inl d0)), (b1, .inr (1, [.ref b1w, .ref b1b, .int (nI (nn f 68)), .int v1])), (b1w, .inl (G.2.1, 10, .inl w1)), (b1b, .inl (G.2.1, 10, .inl d1)), (l0, .inr (1, [.ref l0w, .ref l0b, .int (nI (nn f 79)), .int (fLw f 0)])), (l0w, .inl (G.2.1, 4, .inl w2)), (l0b, .inl (G.2.1, 4, .inl d2)), (l1, .inr (1, [.ref l1w, .ref l1b, .int (nI (nn f 88)), .int (fLw f 1)])), (l1w, .inl (G.2.1, 4, .inl w3)), (l1b, .inl (G.2.1, 4, .inl d3)), (wi, .inr (4, [.ref ww, .int (f 47), .int (f 48), .int (f 49)])), (ww, .inl (G.2.1, 20, .inl (fun j => f (27 + j))))] H)) (PQ (some (.int (absI (clA f y v))))) 0 0 noA := by
  refine ofB (cc := cX3_listOf) (maxL := 7) (ret := (some .int)) (by decide) rfl (Nat.le_of_ble_eq_true rfl) ?_
  intro p e s m below meth c hx hb hr hlocks hml hown hin hts hE hI ls hl
  replace hown : s.vm.findClass RX3 = some m.cls := hown
  have hl : lv_has ls 7 [(0, .ref sa), (1, .int (nI v)), (2, .int (nI y))] := hl
  have hP : va_P G.1 vwCl [(sa, .inr (3, [.ref cu, .ref se, .ref b0, .ref b1, .ref l0, .ref l1, .ref wi, .int (f 50), .int (f 51), .int (f 52), .int (f 53), .int (f 54), .int (f 55), .int (f 56)])), (cu, .inl (G.2.1, 24, .inl (fun j => f (3 + j)))), (se, .inl (G.2.1, 3, .inl f)), (b0, .inr (1, [.ref b0w, .ref b0b, .int (nI (nn f 57)), .int v0])), (b0w, .inl (G.2.1, 10, .inl w0)), (b0b, .inl (G.2.1, 10, .inl d0)), (b1, .inr (1, [.ref b1w, .ref b1b, .int (nI (nn f 68)), .int v1])), (b1w, .inl (G.2.1, 10, .inl w1)), (b1b, .inl (G.2.1, 10, .inl d1)), (l0, .inr (1, [.ref l0w, .ref l0b, .int (nI (nn f 79)), .int (fLw f 0)])), (l0w, .inl (G.2.1, 4, .inl w2)), (l0b, .inl (G.2.1, 4, .inl d2)), (l1, .inr (1, [.ref l1w, .ref l1b, .int (nI (nn f 88)), .int (fLw f 1)])), (l1w, .inl (G.2.1, 4, .inl w3)), (l1b, .inl (G.2.1, 4, .inl d3)), (wi, .inr (4, [.ref ww, .int (f 47), .int (f 48), .int (f 49)])), (ww, .inl (G.2.1, 20, .inl (fun j => f (27 + j))))] s.heap := hI
  have w_0 : ∀ w ∈ u_ws RX3 TX3 14, w ∈ wsX3_listOf := by decide +kernel
  have w_1 := hts (.fieldLink RX3 61 "CableFerry$State" "ferryBank" "I") (by decide +kernel)
  have w_2 := hts (.fieldLink RX3 37 "CableFerry$State" "lane0" "LCableFerry$Line;") (by decide +kernel)
  have w_3 := hts (.fieldLink RX3 40 "CableFerry$State" "lane1" "LCableFerry$Line;") (by decide +kernel)
  have w_4 := hts (.methodLink RX3 86 Lib.Math.abs.name) (by decide +kernel)
  have w_5 := hts (.static Lib.Math.abs.name) (by decide +kernel)
  have w_6 := hts (.initialized "java/lang/Math") (by decide +kernel)
  have w_7 := hts (.code Lib.Math.abs.name Lib.Math.abs.code 1 (some .int)) (by decide +kernel)
  have q0 : nn f 57 ≤ 10 := (hs.2.1 0 (by omega)).2
  have q1 : nn f 68 ≤ 10 := (hs.2.1 1 (by omega)).2
  have n0 : nn f 79 ≤ 4 := (hs.1 0 (by omega)).2
  have n1 : nn f 88 ≤ 4 := (hs.1 1 (by omega)).2
  obtain ⟨h51, h51b⟩ := hs.2.2.1
  rcases (show nn f 51 = 0 ∨ nn f 51 = 1 by omega) with hbk | hbk
  · have hb51 : f 51 = nI 0 := by rw [h51, hbk]
    refine lv_aload_n hx hb dX3_listOf_0 rfl (lv_at hl 0 rfl) ?_
    refine lv_aload_n hx hb dX3_listOf_1 rfl (lv_at hl 0 rfl) ?_
    refine va_get (D := G.1) (ci := 3) (v := .int (f 51)) (C := RX3) (T := TX3) (N := 14) hx hb hts w_0 hown hE.1 hP 0 rfl rfl 8 (by decide) w_1 (fun _ h9 => h9) rfl dX3_listOf_2 ?_
    refine tI (y := nI 0) (hb51) ?_
    refine pcall (st1 := [.ref b0]) (va_runV (As := [.int (nI 0)]) (rest := []) ⟨hx, hb, hml, hown, hts⟩ (c_X3_lineAtBank_0 l G sa cu se b0 b1 l0 l1 wi (f 50) (f 51) (f 52) (f 53) (f 54) (f 55) (f 56)) (cwV 1 hts gX3_listOf_X3_lineAtBank rfl rfl rfl (by decide +kernel) ⟨Nat.le_of_ble_eq_true rfl, Nat.le_of_ble_eq_true rfl⟩) (PC.preV hE (va_recv hE.1 hP (ci := 3) (q0 := 0) rfl rfl) (hP.sub [0] rfl)) rfl rfl hl.1 rfl (lv_room (Nat.le_of_ble_eq_true rfl)) dX3_listOf_5 ⟨Nat.zero_le _, Nat.zero_le _⟩) rfl ?_
    refine lv_astore_n (lv' := [(3, .ref b0), (0, .ref sa), (1, .int (nI v)), (2, .int (nI y))]) hx hb dX3_listOf_8 rfl hl (by decide) rfl (fun ls hl => ?_)
    have hvq : v ≤ nn f 57 := by rw [hbk] at hvw; exact hvw
    refine lv_aload_n hx hb dX3_listOf_9 rfl (lv_at hl 1 rfl) ?_
    refine va_get (D := G.1) (ci := 3) (v := .ref l0) (C := RX3) (T := TX3) (N := 14) hx hb hts w_0 hown hE.1 hP 0 rfl rfl 4 (by decide) w_2 (fun _ h9 => h9) rfl dX3_listOf_10 ?_
    refine pcall (st1 := [.int (fLw f 0)]) (va_runV (As := []) (rest := []) ⟨hx, hb, hml, hown, hts⟩ (c_X1_weight l G l0 l0w l0b (nn f 79) (fLw f 0)) (cwV 0 hts gX3_listOf_X1_weight rfl rfl rfl (by decide +kernel) ⟨Nat.le_of_ble_eq_true rfl, Nat.le_of_ble_eq_true rfl⟩) (PC.preV hE (va_recv hE.1 hP (ci := 1) (q0 := 9) rfl rfl) (hP.sub [9] rfl)) rfl rfl hl.1 rfl (lv_room (Nat.le_of_ble_eq_true rfl)) dX3_listOf_13 ⟨Nat.zero_le _, Nat.zero_le _⟩) rfl ?_
    refine lv_aload_n hx hb dX3_listOf_16 rfl (lv_at hl 1 rfl) ?_
    refine va_get (D := G.1) (ci := 3) (v := .ref l1) (C := RX3) (T := TX3) (N := 14) hx hb hts w_0 hown hE.1 hP 0 rfl rfl 5 (by decide) w_3 (fun _ h9 => h9) rfl dX3_listOf_17 ?_
    refine pcall (st1 := [.int (fLw f 1), .int (fLw f 0)]) (va_runV (As := []) (rest := [.int (fLw f 0)]) ⟨hx, hb, hml, hown, hts⟩ (c_X1_weight l G l1 l1w l1b (nn f 88) (fLw f 1)) (cwV 0 hts gX3_listOf_X1_weight rfl rfl rfl (by decide +kernel) ⟨Nat.le_of_ble_eq_true rfl, Nat.le_of_ble_eq_true rfl⟩) (PC.preV hE (va_recv hE.1 hP (ci := 1) (q0 := 12) rfl rfl) (hP.sub [12] rfl)) rfl rfl hl.1 rfl (lv_room (Nat.le_of_ble_eq_true rfl)) dX3_listOf_20 ⟨Nat.zero_le _, Nat.zero_le _⟩) rfl ?_
    refine lv_isub hx hb dX3_listOf_23 ?_
    refine lv_istore (lv' := [(4, .int ((fLw f 0) - (fLw f 1))), (3, .ref b0), (0, .ref sa), (1, .int (nI v)), (2, .int (nI y))]) hx hb dX3_listOf_24 hl (by decide) rfl (fun ls hl => ?_)
    refine lv_iconst (v := nI 0) hx hb dX3_listOf_26 (by decide +kernel) ?_
    refine lv_istore (lv' := [(5, .int (nI 0)), (4, .int ((fLw f 0) - (fLw f 1))), (3, .ref b0), (0, .ref sa), (1, .int (nI v)), (2, .int (nI y))]) hx hb dX3_listOf_27 hl (by decide) rfl (fun ls hl => ?_)
    refine loopL (σ := Nat × Int32) (n := 7) (pc1 := 29) (fun (z_ : Nat × Int32) => match z_ with | (i, x) => v - i) (fun (z_ : Nat × Int32) => match z_ with | (i, x) => i ≤ v ∧ x = clA f y i) (fun (z_ : Nat × Int32) => match z_ with | (i, x) => [(5, .int (nI i)), (4, .int x), (3, .ref b0), (0, .ref sa), (1, .int (nI v)), (2, .int (nI y))]) (fun (z_ : Nat × Int32) => match z_ with | (i, x) => []) ?_ (0, (fLw f 0) - (fLw f 1)) _ ⟨Nat.zero_le _, rfl⟩ (lv_sub hl [0, 1, 2, 3, 4, 5] rfl)
    rintro ⟨i, x⟩ ls hI hl ih29
    have hl : lv_has ls 7 [(5, .int (nI i)), (4, .int x), (3, .ref b0), (0, .ref sa), (1, .int (nI v)), (2, .int (nI y))] := hl
    replace hI : i ≤ v ∧ x = clA f y i := hI
    obtain ⟨hi, hx1⟩ := hI
    refine tS (st' := []) rfl ?_
    refine lv_iload hx hb dX3_listOf_29 (lv_at hl 0 rfl) ?_
    refine lv_iload_n hx hb dX3_listOf_31 rfl (lv_at hl 4 rfl) ?_
    refine icmp_geN (tgt := 83) hx hb (by omega) (by omega) dX3_listOf_32 (by decide) (fun c32 => ?_) (fun c32 => ?_)
    · skip
      refine lv_iload hx hb dX3_listOf_83 (lv_at hl 1 rfl) ?_
      refine va_mabs hx hb (hml.trans hl.1.symm) hown w_4 w_5 w_6 w_7 (by decide) (Nat.le_of_ble_eq_true rfl) (Nat.zero_le _) (Nat.zero_le _) dX3_listOf_85 ?_
      refine tS (st' := [.int (absI (clA f y v))]) (congrArg (fun z => [Value.int z]) (by rw [abs_I, hx1, show i = v by omega])) ?_
      exact W.iret hx hb hr (fun t ht hW => ⟨rfl, ht⟩) (fun _ h => nomatch h) dX3_listOf_88
    · skip
      refine lv_iload_n hx hb dX3_listOf_35 rfl (lv_at hl 5 rfl) ?_
      refine lv_iload hx hb dX3_listOf_36 (lv_at hl 0 rfl) ?_
      refine lv_ishr hx hb dX3_listOf_38 ?_
      refine lv_iconst (v := nI 1) hx hb dX3_listOf_39 (by decide +kernel) ?_
      refine lv_iand hx hb dX3_listOf_40 ?_
      refine tI (y := nI (bitL y i)) (bit_v i (by omega) y hy) ?_
      have hbl := bitL_lt (s := y) (k := i)
      refine cutL (σ := Nat) (n := 7) (pc1 := 49) (fun r => r = 1 - bitL y i) (fun r => [(5, .int (nI i)), (4, .int x), (3, .ref b0), (0, .ref sa), (1, .int (nI v)), (2, .int (nI y))]) (fun r => [.int (nI r)]) ?_ (fun J49 => ?_)
      · rintro r ls hI hl
        replace hI : r = 1 - bitL y i := hI
        subst hI
        have hl : lv_has ls 7 [(5, .int (nI i)), (4, .int x), (3, .ref b0), (0, .ref sa), (1, .int (nI v)), (2, .int (nI y))] := hl
        refine tS (st' := [.int (nI (1 - bitL y i))]) rfl ?_
        refine lv_istore (lv' := [(6, .int (nI (1 - bitL y i))), (5, .int (nI i)), (4, .int x), (3, .ref b0), (0, .ref sa), (1, .int (nI v)), (2, .int (nI y))]) hx hb dX3_listOf_49 hl (by decide) rfl (fun ls hl => ?_)
        refine lv_iload hx hb dX3_listOf_51 (lv_at hl 2 rfl) ?_
        refine lv_iload hx hb dX3_listOf_53 (lv_at hl 0 rfl) ?_
        refine cutL (σ := Int32) (n := 7) (pc1 := 74) (fun r => r = if bitL y i = 0 then f (57 + 11 * nn f 51 + 1 + i) else -f (57 + 11 * nn f 51 + 1 + i)) (fun r => [(6, .int (nI (1 - bitL y i))), (5, .int (nI i)), (4, .int x), (3, .ref b0), (0, .ref sa), (1, .int (nI v)), (2, .int (nI y))]) (fun r => [.int r, .int x]) ?_ (fun J74 => ?_)
        · rintro r ls hI hl
          have hl : lv_has ls 7 [(6, .int (nI (1 - bitL y i))), (5, .int (nI i)), (4, .int x), (3, .ref b0), (0, .ref sa), (1, .int (nI v)), (2, .int (nI y))] := hl
          replace hI : r = if bitL y i = 0 then f (57 + 11 * nn f 51 + 1 + i) else -f (57 + 11 * nn f 51 + 1 + i) := hI
          have hm := hI
          refine tS (st' := [.int r, .int x]) rfl ?_
          refine lv_iadd hx hb dX3_listOf_74 ?_
          refine lv_istore (lv' := [(4, .int (x + r)), (6, .int (nI (1 - bitL y i))), (5, .int (nI i)), (3, .ref b0), (0, .ref sa), (1, .int (nI v)), (2, .int (nI y))]) hx hb dX3_listOf_75 hl (by decide) rfl (fun ls hl => ?_)
          refine lv_iinc (v := nI (i + 1)) (lv' := [(5, .int (nI (i + 1))), (4, .int (x + r)), (6, .int (nI (1 - bitL y i))), (3, .ref b0), (0, .ref sa), (1, .int (nI v)), (2, .int (nI y))]) hx hb dX3_listOf_77 hl (k := 2) rfl (nI_inc1 _) (by decide) rfl (fun ls hl => ?_)
          refine lv_goto (tgt := 29) hx hb dX3_listOf_80 (by decide) ?_
          exact ih29 ((i + 1), (x + r)) _ ⟨by omega, by rw [hx1, hm]; rfl⟩ (lv_sub hl [0, 1, 3, 4, 5, 6] rfl) (by (try dsimp only); omega)
        · skip
          refine if_eqN (tgt := 67) hx hb (by omega) dX3_listOf_55 (by decide) (fun c55 => ?_) (fun c55 => ?_)
          · skip
            refine lv_aload_n hx hb dX3_listOf_67 rfl (lv_at hl 3 rfl) ?_
            refine lv_iload hx hb dX3_listOf_68 (lv_at hl 1 rfl) ?_
            refine pcall (st1 := [.int (w0 i), .int x]) (va_runV (As := [.int (nI i)]) (rest := [.int x]) ⟨hx, hb, hml, hown, hts⟩ (c_X1_weightOf l G b0 b0w b0b 10 (nn f 57) v0 w0 d0 (by omega) (by omega) i (by omega)) (cwV 1 hts gX3_listOf_X1_weightOf rfl rfl rfl (by decide +kernel) ⟨Nat.le_of_ble_eq_true rfl, Nat.le_of_ble_eq_true rfl⟩) (PC.preV hE (va_recv hE.1 hP (ci := 1) (q0 := 3) rfl rfl) (hP.sub [3, 4, 5] rfl)) rfl rfl hl.1 rfl (lv_room (Nat.le_of_ble_eq_true rfl)) dX3_listOf_70 ⟨Nat.zero_le _, Nat.zero_le _⟩) rfl ?_
            refine tI (y := f (57 + 11 * nn f 51 + 1 + i)) (by rw [hbk]; exact (wt_k hcp).1 (by omega)) ?_
            refine lv_ineg hx hb dX3_listOf_73 ?_
            exact J74 (-(f (57 + 11 * nn f 51 + 1 + i))) _ (by rw [if_neg (by omega)]) (lv_sub hl [0, 1, 2, 3, 4, 5, 6] rfl)
          · skip
            refine lv_aload_n hx hb dX3_listOf_58 rfl (lv_at hl 3 rfl) ?_
            refine lv_iload hx hb dX3_listOf_59 (lv_at hl 1 rfl) ?_
            refine pcall (st1 := [.int (w0 i), .int x]) (va_runV (As := [.int (nI i)]) (rest := [.int x]) ⟨hx, hb, hml, hown, hts⟩ (c_X1_weightOf l G b0 b0w b0b 10 (nn f 57) v0 w0 d0 (by omega) (by omega) i (by omega)) (cwV 1 hts gX3_listOf_X1_weightOf rfl rfl rfl (by decide +kernel) ⟨Nat.le_of_ble_eq_true rfl, Nat.le_of_ble_eq_true rfl⟩) (PC.preV hE (va_recv hE.1 hP (ci := 1) (q0 := 3) rfl rfl) (hP.sub [3, 4, 5] rfl)) rfl rfl hl.1 rfl (lv_room (Nat.le_of_ble_eq_true rfl)) dX3_listOf_61 ⟨Nat.zero_le _, Nat.zero_le _⟩) rfl ?_
            refine tI (y := f (57 + 11 * nn f 51 + 1 + i)) (by rw [hbk]; exact (wt_k hcp).1 (by omega)) ?_
            refine lv_goto (tgt := 74) hx hb dX3_listOf_64 (by decide) ?_
            exact J74 (f (57 + 11 * nn f 51 + 1 + i)) _ (by rw [if_pos (by omega)]) (lv_sub hl [0, 1, 2, 3, 4, 5, 6] rfl)
      · skip
        refine if_neN (tgt := 48) hx hb (by omega) dX3_listOf_41 (by decide) (fun c41 => ?_) (fun c41 => ?_)
        · skip
          refine lv_iconst (v := nI 0) hx hb dX3_listOf_48 (by decide +kernel) ?_
          exact J49 0 _ (by omega) (lv_sub hl [0, 1, 2, 3, 4, 5] rfl)
        · skip
          refine lv_iconst (v := nI 1) hx hb dX3_listOf_44 (by decide +kernel) ?_
          refine lv_goto (tgt := 49) hx hb dX3_listOf_45 (by decide) ?_
          exact J49 1 _ (by omega) (lv_sub hl [0, 1, 2, 3, 4, 5] rfl)
  · have hb51 : f 51 = nI 1 := by rw [h51, hbk]
    refine lv_aload_n hx hb dX3_listOf_0 rfl (lv_at hl 0 rfl) ?_
    refine lv_aload_n hx hb dX3_listOf_1 rfl (lv_at hl 0 rfl) ?_
    refine va_get (D := G.1) (ci := 3) (v := .int (f 51)) (C := RX3) (T := TX3) (N := 14) hx hb hts w_0 hown hE.1 hP 0 rfl rfl 8 (by decide) w_1 (fun _ h9 => h9) rfl dX3_listOf_2 ?_
    refine tI (y := nI 1) (hb51) ?_
    refine pcall (st1 := [.ref b1]) (va_runV (As := [.int (nI 1)]) (rest := []) ⟨hx, hb, hml, hown, hts⟩ (c_X3_lineAtBank_1 l G sa cu se b0 b1 l0 l1 wi (f 50) (f 51) (f 52) (f 53) (f 54) (f 55) (f 56)) (cwV 1 hts gX3_listOf_X3_lineAtBank rfl rfl rfl (by decide +kernel) ⟨Nat.le_of_ble_eq_true rfl, Nat.le_of_ble_eq_true rfl⟩) (PC.preV hE (va_recv hE.1 hP (ci := 3) (q0 := 0) rfl rfl) (hP.sub [0] rfl)) rfl rfl hl.1 rfl (lv_room (Nat.le_of_ble_eq_true rfl)) dX3_listOf_5 ⟨Nat.zero_le _, Nat.zero_le _⟩) rfl ?_
    refine lv_astore_n (lv' := [(3, .ref b1), (0, .ref sa), (1, .int (nI v)), (2, .int (nI y))]) hx hb dX3_listOf_8 rfl hl (by decide) rfl (fun ls hl => ?_)
    have hvq : v ≤ nn f 68 := by rw [hbk] at hvw; exact hvw
    refine lv_aload_n hx hb dX3_listOf_9 rfl (lv_at hl 1 rfl) ?_
    refine va_get (D := G.1) (ci := 3) (v := .ref l0) (C := RX3) (T := TX3) (N := 14) hx hb hts w_0 hown hE.1 hP 0 rfl rfl 4 (by decide) w_2 (fun _ h9 => h9) rfl dX3_listOf_10 ?_
    refine pcall (st1 := [.int (fLw f 0)]) (va_runV (As := []) (rest := []) ⟨hx, hb, hml, hown, hts⟩ (c_X1_weight l G l0 l0w l0b (nn f 79) (fLw f 0)) (cwV 0 hts gX3_listOf_X1_weight rfl rfl rfl (by decide +kernel) ⟨Nat.le_of_ble_eq_true rfl, Nat.le_of_ble_eq_true rfl⟩) (PC.preV hE (va_recv hE.1 hP (ci := 1) (q0 := 9) rfl rfl) (hP.sub [9] rfl)) rfl rfl hl.1 rfl (lv_room (Nat.le_of_ble_eq_true rfl)) dX3_listOf_13 ⟨Nat.zero_le _, Nat.zero_le _⟩) rfl ?_
    refine lv_aload_n hx hb dX3_listOf_16 rfl (lv_at hl 1 rfl) ?_
    refine va_get (D := G.1) (ci := 3) (v := .ref l1) (C := RX3) (T := TX3) (N := 14) hx hb hts w_0 hown hE.1 hP 0 rfl rfl 5 (by decide) w_3 (fun _ h9 => h9) rfl dX3_listOf_17 ?_
    refine pcall (st1 := [.int (fLw f 1), .int (fLw f 0)]) (va_runV (As := []) (rest := [.int (fLw f 0)]) ⟨hx, hb, hml, hown, hts⟩ (c_X1_weight l G l1 l1w l1b (nn f 88) (fLw f 1)) (cwV 0 hts gX3_listOf_X1_weight rfl rfl rfl (by decide +kernel) ⟨Nat.le_of_ble_eq_true rfl, Nat.le_of_ble_eq_true rfl⟩) (PC.preV hE (va_recv hE.1 hP (ci := 1) (q0 := 12) rfl rfl) (hP.sub [12] rfl)) rfl rfl hl.1 rfl (lv_room (Nat.le_of_ble_eq_true rfl)) dX3_listOf_20 ⟨Nat.zero_le _, Nat.zero_le _⟩) rfl ?_
    refine lv_isub hx hb dX3_listOf_23 ?_
    refine lv_istore (lv' := [(4, .int ((fLw f 0) - (fLw f 1))), (3, .ref b1), (0, .ref sa), (1, .int (nI v)), (2, .int (nI y))]) hx hb dX3_listOf_24 hl (by decide) rfl (fun ls hl => ?_)
    refine lv_iconst (v := nI 0) hx hb dX3_listOf_26 (by decide +kernel) ?_
    refine lv_istore (lv' := [(5, .int (nI 0)), (4, .int ((fLw f 0) - (fLw f 1))), (3, .ref b1), (0, .ref sa), (1, .int (nI v)), (2, .int (nI y))]) hx hb dX3_listOf_27 hl (by decide) rfl (fun ls hl => ?_)
    refine loopL (σ := Nat × Int32) (n := 7) (pc1 := 29) (fun (z_ : Nat × Int32) => match z_ with | (i, x) => v - i) (fun (z_ : Nat × Int32) => match z_ with | (i, x) => i ≤ v ∧ x = clA f y i) (fun (z_ : Nat × Int32) => match z_ with | (i, x) => [(5, .int (nI i)), (4, .int x), (3, .ref b1), (0, .ref sa), (1, .int (nI v)), (2, .int (nI y))]) (fun (z_ : Nat × Int32) => match z_ with | (i, x) => []) ?_ (0, (fLw f 0) - (fLw f 1)) _ ⟨Nat.zero_le _, rfl⟩ (lv_sub hl [0, 1, 2, 3, 4, 5] rfl)
    rintro ⟨i, x⟩ ls hI hl ih29
    have hl : lv_has ls 7 [(5, .int (nI i)), (4, .int x), (3, .ref b1), (0, .ref sa), (1, .int (nI v)), (2, .int (nI y))] := hl
    replace hI : i ≤ v ∧ x = clA f y i := hI
    obtain ⟨hi, hx1⟩ := hI
    refine tS (st' := []) rfl ?_
    refine lv_iload hx hb dX3_listOf_29 (lv_at hl 0 rfl) ?_
    refine lv_iload_n hx hb dX3_listOf_31 rfl (lv_at hl 4 rfl) ?_
    refine icmp_geN (tgt := 83) hx hb (by omega) (by omega) dX3_listOf_32 (by decide) (fun c32 => ?_) (fun c32 => ?_)
    · skip
      refine lv_iload hx hb dX3_listOf_83 (lv_at hl 1 rfl) ?_
      refine va_mabs hx hb (hml.trans hl.1.symm) hown w_4 w_5 w_6 w_7 (by decide) (Nat.le_of_ble_eq_true rfl) (Nat.zero_le _) (Nat.zero_le _) dX3_listOf_85 ?_
      refine tS (st' := [.int (absI (clA f y v))]) (congrArg (fun z => [Value.int z]) (by rw [abs_I, hx1, show i = v by omega])) ?_
      exact W.iret hx hb hr (fun t ht hW => ⟨rfl, ht⟩) (fun _ h => nomatch h) dX3_listOf_88
    · skip
      refine lv_iload_n hx hb dX3_listOf_35 rfl (lv_at hl 5 rfl) ?_
      refine lv_iload hx hb dX3_listOf_36 (lv_at hl 0 rfl) ?_
      refine lv_ishr hx hb dX3_listOf_38 ?_
      refine lv_iconst (v := nI 1) hx hb dX3_listOf_39 (by decide +kernel) ?_
      refine lv_iand hx hb dX3_listOf_40 ?_
      refine tI (y := nI (bitL y i)) (bit_v i (by omega) y hy) ?_
      have hbl := bitL_lt (s := y) (k := i)
      refine cutL (σ := Nat) (n := 7) (pc1 := 49) (fun r => r = 1 - bitL y i) (fun r => [(5, .int (nI i)), (4, .int x), (3, .ref b1), (0, .ref sa), (1, .int (nI v)), (2, .int (nI y))]) (fun r => [.int (nI r)]) ?_ (fun J49 => ?_)
      · rintro r ls hI hl
        replace hI : r = 1 - bitL y i := hI
        subst hI
        have hl : lv_has ls 7 [(5, .int (nI i)), (4, .int x), (3, .ref b1), (0, .ref sa), (1, .int (nI v)), (2, .int (nI y))] := hl
        refine tS (st' := [.int (nI (1 - bitL y i))]) rfl ?_
        refine lv_istore (lv' := [(6, .int (nI (1 - bitL y i))), (5, .int (nI i)), (4, .int x), (3, .ref b1), (0, .ref sa), (1, .int (nI v)), (2, .int (nI y))]) hx hb dX3_listOf_49 hl (by decide) rfl (fun ls hl => ?_)
        refine lv_iload hx hb dX3_listOf_51 (lv_at hl 2 rfl) ?_
        refine lv_iload hx hb dX3_listOf_53 (lv_at hl 0 rfl) ?_
        refine cutL (σ := Int32) (n := 7) (pc1 := 74) (fun r => r = if bitL y i = 0 then f (57 + 11 * nn f 51 + 1 + i) else -f (57 + 11 * nn f 51 + 1 + i)) (fun r => [(6, .int (nI (1 - bitL y i))), (5, .int (nI i)), (4, .int x), (3, .ref b1), (0, .ref sa), (1, .int (nI v)), (2, .int (nI y))]) (fun r => [.int r, .int x]) ?_ (fun J74 => ?_)
        · rintro r ls hI hl
          have hl : lv_has ls 7 [(6, .int (nI (1 - bitL y i))), (5, .int (nI i)), (4, .int x), (3, .ref b1), (0, .ref sa), (1, .int (nI v)), (2, .int (nI y))] := hl
          replace hI : r = if bitL y i = 0 then f (57 + 11 * nn f 51 + 1 + i) else -f (57 + 11 * nn f 51 + 1 + i) := hI
          have hm := hI
          refine tS (st' := [.int r, .int x]) rfl ?_
          refine lv_iadd hx hb dX3_listOf_74 ?_
          refine lv_istore (lv' := [(4, .int (x + r)), (6, .int (nI (1 - bitL y i))), (5, .int (nI i)), (3, .ref b1), (0, .ref sa), (1, .int (nI v)), (2, .int (nI y))]) hx hb dX3_listOf_75 hl (by decide) rfl (fun ls hl => ?_)
          refine lv_iinc (v := nI (i + 1)) (lv' := [(5, .int (nI (i + 1))), (4, .int (x + r)), (6, .int (nI (1 - bitL y i))), (3, .ref b1), (0, .ref sa), (1, .int (nI v)), (2, .int (nI y))]) hx hb dX3_listOf_77 hl (k := 2) rfl (nI_inc1 _) (by decide) rfl (fun ls hl => ?_)
          refine lv_goto (tgt := 29) hx hb dX3_listOf_80 (by decide) ?_
          exact ih29 ((i + 1), (x + r)) _ ⟨by omega, by rw [hx1, hm]; rfl⟩ (lv_sub hl [0, 1, 3, 4, 5, 6] rfl) (by (try dsimp only); omega)
        · skip
          refine if_eqN (tgt := 67) hx hb (by omega) dX3_listOf_55 (by decide) (fun c55 => ?_) (fun c55 => ?_)
          · skip
            refine lv_aload_n hx hb dX3_listOf_67 rfl (lv_at hl 3 rfl) ?_
            refine lv_iload hx hb dX3_listOf_68 (lv_at hl 1 rfl) ?_
            refine pcall (st1 := [.int (w1 i), .int x]) (va_runV (As := [.int (nI i)]) (rest := [.int x]) ⟨hx, hb, hml, hown, hts⟩ (c_X1_weightOf l G b1 b1w b1b 10 (nn f 68) v1 w1 d1 (by omega) (by omega) i (by omega)) (cwV 1 hts gX3_listOf_X1_weightOf rfl rfl rfl (by decide +kernel) ⟨Nat.le_of_ble_eq_true rfl, Nat.le_of_ble_eq_true rfl⟩) (PC.preV hE (va_recv hE.1 hP (ci := 1) (q0 := 6) rfl rfl) (hP.sub [6, 7, 8] rfl)) rfl rfl hl.1 rfl (lv_room (Nat.le_of_ble_eq_true rfl)) dX3_listOf_70 ⟨Nat.zero_le _, Nat.zero_le _⟩) rfl ?_
            refine tI (y := f (57 + 11 * nn f 51 + 1 + i)) (by rw [hbk]; exact (wt_k hcp).2 (by omega)) ?_
            refine lv_ineg hx hb dX3_listOf_73 ?_
            exact J74 (-(f (57 + 11 * nn f 51 + 1 + i))) _ (by rw [if_neg (by omega)]) (lv_sub hl [0, 1, 2, 3, 4, 5, 6] rfl)
          · skip
            refine lv_aload_n hx hb dX3_listOf_58 rfl (lv_at hl 3 rfl) ?_
            refine lv_iload hx hb dX3_listOf_59 (lv_at hl 1 rfl) ?_
            refine pcall (st1 := [.int (w1 i), .int x]) (va_runV (As := [.int (nI i)]) (rest := [.int x]) ⟨hx, hb, hml, hown, hts⟩ (c_X1_weightOf l G b1 b1w b1b 10 (nn f 68) v1 w1 d1 (by omega) (by omega) i (by omega)) (cwV 1 hts gX3_listOf_X1_weightOf rfl rfl rfl (by decide +kernel) ⟨Nat.le_of_ble_eq_true rfl, Nat.le_of_ble_eq_true rfl⟩) (PC.preV hE (va_recv hE.1 hP (ci := 1) (q0 := 6) rfl rfl) (hP.sub [6, 7, 8] rfl)) rfl rfl hl.1 rfl (lv_room (Nat.le_of_ble_eq_true rfl)) dX3_listOf_61 ⟨Nat.zero_le _, Nat.zero_le _⟩) rfl ?_
            refine tI (y := f (57 + 11 * nn f 51 + 1 + i)) (by rw [hbk]; exact (wt_k hcp).2 (by omega)) ?_
            refine lv_goto (tgt := 74) hx hb dX3_listOf_64 (by decide) ?_
            exact J74 (f (57 + 11 * nn f 51 + 1 + i)) _ (by rw [if_pos (by omega)]) (lv_sub hl [0, 1, 2, 3, 4, 5, 6] rfl)
      · skip
        refine if_neN (tgt := 48) hx hb (by omega) dX3_listOf_41 (by decide) (fun c41 => ?_) (fun c41 => ?_)
        · skip
          refine lv_iconst (v := nI 0) hx hb dX3_listOf_48 (by decide +kernel) ?_
          exact J49 0 _ (by omega) (lv_sub hl [0, 1, 2, 3, 4, 5] rfl)
        · skip
          refine lv_iconst (v := nI 1) hx hb dX3_listOf_44 (by decide +kernel) ?_
          refine lv_goto (tgt := 49) hx hb dX3_listOf_45 (by decide) ?_
          exact J49 1 _ (by omega) (lv_sub hl [0, 1, 2, 3, 4, 5] rfl)
set_option maxHeartbeats 4000000 in
set_option maxRecDepth 100000 in
theorem c_X3_leastListWith (l : Launch) (G : eG) (sa cu se b0 b0w b0b b1 b1w b1b l0 l0w l0b l1 l1w l1b wi ww : Nat) (f : Nat → Int32) (v0 v1 : Int32) (w0 d0 w1 d1 w2 d2 w3 d3 : Nat → Int32) (hcp : Cpl f w0 w1 w2 d2 w3 d3) (B : Nat) (hB : B < 800000000) (ho : Okf B f) (v : Nat) (hv8 : v ≤ 8) : Met l yX3_leastListWith wsX3_leastListWith ({ frames := 3, cells := 0, slots := 0, locals := 68 }) (PC [.ref sa, .int (nI v)] G (fun H => va_P G.1 vwCl [(sa, .inr (3, [.ref cu, .ref se, .ref b0, .ref b1, .ref l0, .ref l1, .ref wi, .int (f 50), .int (f 51), .int (f 52), .int (f 53), .int (f 54), .int (f 55), .int (f 56)])), (cu, .inl (G.2.1, 24, .inl (fun j => f (3 + j)))), (se, .inl (G.2.1, 3, .inl f)), (b0, .inr (1, [.ref b0w, .ref b0b, .int (nI (nn f 57)), .int v0])), (b0w, .inl (G.2.1, 10, .inl w0)), (b0b, .inl (G.2.1, 10, .inl d0)), (b1, .inr (1, [.ref b1w, .ref b1b, .int (nI (nn f 68)), .int v1])), (b1w, .inl (G.2.1, 10, .inl w1)), (b1b, .inl (G.2.1, 10, .inl d1)), (l0, .inr (1, [.ref l0w, .ref l0b, .int (nI (nn f 79)), .int (fLw f 0)])), (l0w, .inl (G.2.1, 4, .inl w2)), (l0b, .inl (G.2.1, 4, .inl d2)), (l1, .inr (1, [.ref l1w, .ref l1b, .int (nI (nn f 88)), .int (fLw f 1)])), (l1w, .inl (G.2.1, 4, .inl w3)), (l1b, .inl (G.2.1, 4, .inl d3)), (wi, .inr (4, [.ref ww, .int (f 47), .int (f 48), .int (f 49)])), (ww, .inl (G.2.1, 20, .inl (fun j => f (27 + j))))] H)) (PQ (some (.int (fLs f v)))) 0 0 noA := by
  refine ofB (cc := cX3_leastListWith) (maxL := 6) (ret := (some .int)) (by decide) rfl (Nat.le_of_ble_eq_true rfl) ?_
  intro p e s m below meth c hx hb hr hlocks hml hown hin hts hE hI ls hl
  replace hown : s.vm.findClass RX3 = some m.cls := hown
  have hl : lv_has ls 6 [(0, .ref sa), (1, .int (nI v))] := hl
  have hP : va_P G.1 vwCl [(sa, .inr (3, [.ref cu, .ref se, .ref b0, .ref b1, .ref l0, .ref l1, .ref wi, .int (f 50), .int (f 51), .int (f 52), .int (f 53), .int (f 54), .int (f 55), .int (f 56)])), (cu, .inl (G.2.1, 24, .inl (fun j => f (3 + j)))), (se, .inl (G.2.1, 3, .inl f)), (b0, .inr (1, [.ref b0w, .ref b0b, .int (nI (nn f 57)), .int v0])), (b0w, .inl (G.2.1, 10, .inl w0)), (b0b, .inl (G.2.1, 10, .inl d0)), (b1, .inr (1, [.ref b1w, .ref b1b, .int (nI (nn f 68)), .int v1])), (b1w, .inl (G.2.1, 10, .inl w1)), (b1b, .inl (G.2.1, 10, .inl d1)), (l0, .inr (1, [.ref l0w, .ref l0b, .int (nI (nn f 79)), .int (fLw f 0)])), (l0w, .inl (G.2.1, 4, .inl w2)), (l0b, .inl (G.2.1, 4, .inl d2)), (l1, .inr (1, [.ref l1w, .ref l1b, .int (nI (nn f 88)), .int (fLw f 1)])), (l1w, .inl (G.2.1, 4, .inl w3)), (l1b, .inl (G.2.1, 4, .inl d3)), (wi, .inr (4, [.ref ww, .int (f 47), .int (f 48), .int (f 49)])), (ww, .inl (G.2.1, 20, .inl (fun j => f (27 + j))))] s.heap := hI
  have w_0 : ∀ w ∈ u_ws RX3 TX3 14, w ∈ wsX3_leastListWith := by decide +kernel
  have w_1 := hts (.fieldLink RX3 61 "CableFerry$State" "ferryBank" "I") (by decide +kernel)
  have w_2 := hts (.methodLink RX3 181 Lib.Math.min.name) (by decide +kernel)
  have w_3 := hts (.static Lib.Math.min.name) (by decide +kernel)
  have w_4 := hts (.initialized "java/lang/Math") (by decide +kernel)
  have w_5 := hts (.code Lib.Math.min.name Lib.Math.min.code 2 (some .int)) (by decide +kernel)
  have hs := okf_shp (by omega) ho
  have q0 : nn f 57 ≤ 10 := (hs.2.1 0 (by omega)).2
  have q1 : nn f 68 ≤ 10 := (hs.2.1 1 (by omega)).2
  have n0 : nn f 79 ≤ 4 := (hs.1 0 (by omega)).2
  have n1 : nn f 88 ≤ 4 := (hs.1 1 (by omega)).2
  obtain ⟨h51, h51b⟩ := hs.2.2.1
  have hp := pow9 hv8
  rcases (show nn f 51 = 0 ∨ nn f 51 = 1 by omega) with hbk | hbk
  · have hb51 : f 51 = nI 0 := by rw [h51, hbk]
    refine lv_iload_n hx hb dX3_leastListWith_0 rfl (lv_at hl 1 rfl) ?_
    refine lv_aload_n hx hb dX3_leastListWith_1 rfl (lv_at hl 0 rfl) ?_
    refine lv_aload_n hx hb dX3_leastListWith_2 rfl (lv_at hl 0 rfl) ?_
    refine va_get (D := G.1) (ci := 3) (v := .int (f 51)) (C := RX3) (T := TX3) (N := 14) hx hb hts w_0 hown hE.1 hP 0 rfl rfl 8 (by decide) w_1 (fun _ h9 => h9) rfl dX3_leastListWith_3 ?_
    refine tI (y := nI 0) (hb51) ?_
    refine pcall (st1 := [.ref b0, .int (nI v)]) (va_runV (As := [.int (nI 0)]) (rest := [.int (nI v)]) ⟨hx, hb, hml, hown, hts⟩ (c_X3_lineAtBank_0 l G sa cu se b0 b1 l0 l1 wi (f 50) (f 51) (f 52) (f 53) (f 54) (f 55) (f 56)) (cwV 1 hts gX3_leastListWith_X3_lineAtBank rfl rfl rfl (by decide +kernel) ⟨Nat.le_of_ble_eq_true rfl, Nat.le_of_ble_eq_true rfl⟩) (PC.preV hE (va_recv hE.1 hP (ci := 3) (q0 := 0) rfl rfl) (hP.sub [0] rfl)) rfl rfl hl.1 rfl (lv_room (Nat.le_of_ble_eq_true rfl)) dX3_leastListWith_6 ⟨Nat.zero_le _, Nat.zero_le _⟩) rfl ?_
    refine pcall (st1 := [.int (nI (nn f 57)), .int (nI v)]) (va_runV (As := []) (rest := [.int (nI v)]) ⟨hx, hb, hml, hown, hts⟩ (c_X1_size l G b0 b0w b0b (nn f 57) v0) (cwV 0 hts gX3_leastListWith_X1_size rfl rfl rfl (by decide +kernel) ⟨Nat.le_of_ble_eq_true rfl, Nat.le_of_ble_eq_true rfl⟩) (PC.preV hE (va_recv hE.1 hP (ci := 1) (q0 := 3) rfl rfl) (hP.sub [3] rfl)) rfl rfl hl.1 rfl (lv_room (Nat.le_of_ble_eq_true rfl)) dX3_leastListWith_9 ⟨Nat.zero_le _, Nat.zero_le _⟩) rfl ?_
    refine icmp_leN (tgt := 17) hx hb (by omega) (by omega) dX3_leastListWith_12 (by decide) (fun c12 => ?_) (fun c12 => ?_)
    · skip
      have hvq : v ≤ nn f (57 + 11 * nn f 51) := by rw [hbk]; exact c12
      refine lv_iconst (v := -1) hx hb dX3_leastListWith_17 (by decide +kernel) ?_
      refine lv_istore_n (lv' := [(2, .int (-1)), (0, .ref sa), (1, .int (nI v))]) hx hb dX3_leastListWith_18 rfl hl (by decide) rfl (fun ls hl => ?_)
      refine lv_iconst (v := nI 1) hx hb dX3_leastListWith_19 (by decide +kernel) ?_
      refine lv_iload_n hx hb dX3_leastListWith_20 rfl (lv_at hl 2 rfl) ?_
      refine lv_ishl hx hb dX3_leastListWith_21 ?_
      refine tI (y := nI (2 ^ v)) (shl1 v (by omega)) ?_
      refine lv_istore_n (lv' := [(3, .int (nI (2 ^ v))), (2, .int (-1)), (0, .ref sa), (1, .int (nI v))]) hx hb dX3_leastListWith_22 rfl hl (by decide) rfl (fun ls hl => ?_)
      refine lv_iconst (v := nI 0) hx hb dX3_leastListWith_23 (by decide +kernel) ?_
      refine lv_istore (lv' := [(4, .int (nI 0)), (3, .int (nI (2 ^ v))), (2, .int (-1)), (0, .ref sa), (1, .int (nI v))]) hx hb dX3_leastListWith_24 hl (by decide) rfl (fun ls hl => ?_)
      refine loopL (σ := Nat × Int32) (n := 6) (pc1 := 26) (fun (z_ : Nat × Int32) => match z_ with | (i, x) => 2 ^ v - i) (fun (z_ : Nat × Int32) => match z_ with | (i, x) => i ≤ 2 ^ v ∧ x = mfold (clR f v) i) (fun (z_ : Nat × Int32) => match z_ with | (i, x) => [(4, .int (nI i)), (3, .int (nI (2 ^ v))), (2, .int x), (0, .ref sa), (1, .int (nI v))]) (fun (z_ : Nat × Int32) => match z_ with | (i, x) => []) ?_ (0, (-1)) _ ⟨Nat.zero_le _, rfl⟩ (lv_sub hl [0, 1, 2, 3, 4] rfl)
      rintro ⟨i, x⟩ ls hI hl ih26
      have hl : lv_has ls 6 [(4, .int (nI i)), (3, .int (nI (2 ^ v))), (2, .int x), (0, .ref sa), (1, .int (nI v))] := hl
      replace hI : i ≤ 2 ^ v ∧ x = mfold (clR f v) i := hI
      obtain ⟨hi, hx1⟩ := hI
      refine tS (st' := []) rfl ?_
      refine lv_iload hx hb dX3_leastListWith_26 (lv_at hl 0 rfl) ?_
      refine lv_iload_n hx hb dX3_leastListWith_28 rfl (lv_at hl 1 rfl) ?_
      refine icmp_geN (tgt := 74) hx hb (by omega) (by omega) dX3_leastListWith_29 (by decide) (fun c29 => ?_) (fun c29 => ?_)
      · skip
        refine lv_iload_n hx hb dX3_leastListWith_74 rfl (lv_at hl 2 rfl) ?_
        refine tS (st' := [.int (fLs f v)]) (congrArg (fun z => [Value.int z]) (by unfold fLs; rw [if_pos hvq, hx1, show i = 2 ^ v by omega]; exact ls_eq hv8)) ?_
        exact W.iret hx hb hr (fun t ht hW => ⟨rfl, ht⟩) (fun _ h => nomatch h) dX3_leastListWith_75
      · skip
        refine lv_aload_n hx hb dX3_leastListWith_32 rfl (lv_at hl 3 rfl) ?_
        refine lv_iload_n hx hb dX3_leastListWith_33 rfl (lv_at hl 4 rfl) ?_
        refine lv_iload hx hb dX3_leastListWith_34 (lv_at hl 0 rfl) ?_
        refine pcall (st1 := [.int (b2 (clP f v i))]) (va_runV (As := [.int (nI v), .int (nI i)]) (rest := []) ⟨hx, hb, hml, hown, hts⟩ (c_X3_hasRoomFor l G sa cu se b0 b1 l0 l0w l0b l1 l1w l1b wi ww f hs v i (by omega) (by omega)) (cwV 2 hts gX3_leastListWith_X3_hasRoomFor rfl rfl rfl (by decide +kernel) ⟨Nat.le_of_ble_eq_true rfl, Nat.le_of_ble_eq_true rfl⟩) (PC.preV hE (va_recv hE.1 hP (ci := 3) (q0 := 0) rfl rfl) (hP.sub [0, 1, 2, 9, 12, 15, 16] rfl)) rfl rfl hl.1 rfl (lv_room (Nat.le_of_ble_eq_true rfl)) dX3_leastListWith_36 ⟨Nat.zero_le _, Nat.zero_le _⟩) rfl ?_
        refine lv_if_eq (tgt := 68) hx hb dX3_leastListWith_39 (by decide) (fun c39 => ?_) (fun c39 => ?_)
        · skip
          refine lv_iinc (v := nI (i + 1)) (lv' := [(4, .int (nI (i + 1))), (3, .int (nI (2 ^ v))), (2, .int x), (0, .ref sa), (1, .int (nI v))]) hx hb dX3_leastListWith_68 hl (k := 0) rfl (nI_inc1 _) (by decide) rfl (fun ls hl => ?_)
          refine lv_goto (tgt := 26) hx hb dX3_leastListWith_71 (by decide) ?_
          exact ih26 ((i + 1), x) _ ⟨by omega, by rw [hx1]; exact (mf_n (Or.inl (if_neg (b2_0.mp c39)))).symm⟩ (lv_sub hl [0, 1, 2, 3, 4] rfl) (by (try dsimp only); omega)
        · skip
          refine lv_aload_n hx hb dX3_leastListWith_42 rfl (lv_at hl 3 rfl) ?_
          refine lv_iload_n hx hb dX3_leastListWith_43 rfl (lv_at hl 4 rfl) ?_
          refine lv_iload hx hb dX3_leastListWith_44 (lv_at hl 0 rfl) ?_
          refine pcall (st1 := [.int (absI (clA f i v))]) (va_runV (As := [.int (nI v), .int (nI i)]) (rest := []) ⟨hx, hb, hml, hown, hts⟩ (c_X3_listOf l G sa cu se b0 b0w b0b b1 b1w b1b l0 l0w l0b l1 l1w l1b wi ww f v0 v1 w0 d0 w1 d1 w2 d2 w3 d3 hs hcp v i (by omega) (by omega) (by omega)) (cwV 2 hts gX3_leastListWith_X3_listOf rfl rfl rfl (by decide +kernel) ⟨Nat.le_of_ble_eq_true rfl, Nat.le_of_ble_eq_true rfl⟩) (PC.preV hE (va_recv hE.1 hP (ci := 3) (q0 := 0) rfl rfl) (hP.sub [0, 1, 2, 3, 4, 5, 6, 7, 8, 9, 10, 11, 12, 13, 14, 15, 16] rfl)) rfl rfl hl.1 rfl (lv_room (Nat.le_of_ble_eq_true rfl)) dX3_leastListWith_46 ⟨Nat.zero_le _, Nat.zero_le _⟩) rfl ?_
          refine lv_istore (lv' := [(5, .int (absI (clA f i v))), (4, .int (nI i)), (3, .int (nI (2 ^ v))), (2, .int x), (0, .ref sa), (1, .int (nI v))]) hx hb dX3_leastListWith_49 hl (by decide) rfl (fun ls hl => ?_)
          refine lv_iload_n hx hb dX3_leastListWith_51 rfl (lv_at hl 3 rfl) ?_
          refine lv_iconst (v := -1) hx hb dX3_leastListWith_52 (by decide +kernel) ?_
          have hcr : clR f v i = absI (clA f i v) := if_pos (b2_1.mp c39)
          have hcn : ¬ clR f v i = -1 := by rw [hcr]; exact clA_n ho hvq hv8
          refine cutL (σ := Int32) (n := 6) (pc1 := 67) (fun r => r = mfold (clR f v) (i + 1)) (fun r => [(5, .int (absI (clA f i v))), (4, .int (nI i)), (3, .int (nI (2 ^ v))), (2, .int x), (0, .ref sa), (1, .int (nI v))]) (fun r => [.int r]) ?_ (fun J67 => ?_)
          · rintro r ls hI hl
            have hl : lv_has ls 6 [(5, .int (absI (clA f i v))), (4, .int (nI i)), (3, .int (nI (2 ^ v))), (2, .int x), (0, .ref sa), (1, .int (nI v))] := hl
            replace hI : r = mfold (clR f v) (i + 1) := hI
            have hm := hI
            refine tS (st' := [.int r]) rfl ?_
            refine lv_istore_n (lv' := [(2, .int r), (5, .int (absI (clA f i v))), (4, .int (nI i)), (3, .int (nI (2 ^ v))), (0, .ref sa), (1, .int (nI v))]) hx hb dX3_leastListWith_67 rfl hl (by decide) rfl (fun ls hl => ?_)
            refine lv_iinc (v := nI (i + 1)) (lv' := [(4, .int (nI (i + 1))), (2, .int r), (5, .int (absI (clA f i v))), (3, .int (nI (2 ^ v))), (0, .ref sa), (1, .int (nI v))]) hx hb dX3_leastListWith_68 hl (k := 2) rfl (nI_inc1 _) (by decide) rfl (fun ls hl => ?_)
            refine lv_goto (tgt := 26) hx hb dX3_leastListWith_71 (by decide) ?_
            exact ih26 ((i + 1), r) _ ⟨by omega, hm⟩ (lv_sub hl [0, 3, 1, 4, 5] rfl) (by (try dsimp only); omega)
          · skip
            refine lv_icmp_ne (tgt := 61) hx hb dX3_leastListWith_53 (by decide) (fun c53 => ?_) (fun c53 => ?_)
            · skip
              refine lv_iload_n hx hb dX3_leastListWith_61 rfl (lv_at hl 3 rfl) ?_
              refine lv_iload hx hb dX3_leastListWith_62 (lv_at hl 0 rfl) ?_
              refine va_mmin hx hb (hml.trans hl.1.symm) hown w_2 w_3 w_4 w_5 (by decide) (Nat.le_of_ble_eq_true rfl) (Nat.zero_le _) (Nat.zero_le _) dX3_leastListWith_64 ?_
              exact J67 (if absI (clA f i v) < x then absI (clA f i v) else x) _ (mf_min hx1 hcr hcn c53) (lv_sub hl [0, 1, 2, 3, 4, 5] rfl)
            · skip
              refine lv_iload hx hb dX3_leastListWith_56 (lv_at hl 0 rfl) ?_
              refine lv_goto (tgt := 67) hx hb dX3_leastListWith_58 (by decide) ?_
              exact J67 (absI (clA f i v)) _ (by rw [mf_y hcn (Or.inl (by rw [← hx1]; exact c53)), hcr]) (lv_sub hl [0, 1, 2, 3, 4, 5] rfl)
    · skip
      refine lv_iconst (v := -1) hx hb dX3_leastListWith_15 (by decide +kernel) ?_
      refine tS (st' := [.int (fLs f v)]) (congrArg (fun z => [Value.int z]) (by unfold fLs; rw [if_neg (by rw [hbk]; exact Nat.not_le.mpr c12)])) ?_
      exact W.iret hx hb hr (fun t ht hW => ⟨rfl, ht⟩) (fun _ h => nomatch h) dX3_leastListWith_16
  · have hb51 : f 51 = nI 1 := by rw [h51, hbk]
    refine lv_iload_n hx hb dX3_leastListWith_0 rfl (lv_at hl 1 rfl) ?_
    refine lv_aload_n hx hb dX3_leastListWith_1 rfl (lv_at hl 0 rfl) ?_
    refine lv_aload_n hx hb dX3_leastListWith_2 rfl (lv_at hl 0 rfl) ?_
    refine va_get (D := G.1) (ci := 3) (v := .int (f 51)) (C := RX3) (T := TX3) (N := 14) hx hb hts w_0 hown hE.1 hP 0 rfl rfl 8 (by decide) w_1 (fun _ h9 => h9) rfl dX3_leastListWith_3 ?_
    refine tI (y := nI 1) (hb51) ?_
    refine pcall (st1 := [.ref b1, .int (nI v)]) (va_runV (As := [.int (nI 1)]) (rest := [.int (nI v)]) ⟨hx, hb, hml, hown, hts⟩ (c_X3_lineAtBank_1 l G sa cu se b0 b1 l0 l1 wi (f 50) (f 51) (f 52) (f 53) (f 54) (f 55) (f 56)) (cwV 1 hts gX3_leastListWith_X3_lineAtBank rfl rfl rfl (by decide +kernel) ⟨Nat.le_of_ble_eq_true rfl, Nat.le_of_ble_eq_true rfl⟩) (PC.preV hE (va_recv hE.1 hP (ci := 3) (q0 := 0) rfl rfl) (hP.sub [0] rfl)) rfl rfl hl.1 rfl (lv_room (Nat.le_of_ble_eq_true rfl)) dX3_leastListWith_6 ⟨Nat.zero_le _, Nat.zero_le _⟩) rfl ?_
    refine pcall (st1 := [.int (nI (nn f 68)), .int (nI v)]) (va_runV (As := []) (rest := [.int (nI v)]) ⟨hx, hb, hml, hown, hts⟩ (c_X1_size l G b1 b1w b1b (nn f 68) v1) (cwV 0 hts gX3_leastListWith_X1_size rfl rfl rfl (by decide +kernel) ⟨Nat.le_of_ble_eq_true rfl, Nat.le_of_ble_eq_true rfl⟩) (PC.preV hE (va_recv hE.1 hP (ci := 1) (q0 := 6) rfl rfl) (hP.sub [6] rfl)) rfl rfl hl.1 rfl (lv_room (Nat.le_of_ble_eq_true rfl)) dX3_leastListWith_9 ⟨Nat.zero_le _, Nat.zero_le _⟩) rfl ?_
    refine icmp_leN (tgt := 17) hx hb (by omega) (by omega) dX3_leastListWith_12 (by decide) (fun c12 => ?_) (fun c12 => ?_)
    · skip
      have hvq : v ≤ nn f (57 + 11 * nn f 51) := by rw [hbk]; exact c12
      refine lv_iconst (v := -1) hx hb dX3_leastListWith_17 (by decide +kernel) ?_
      refine lv_istore_n (lv' := [(2, .int (-1)), (0, .ref sa), (1, .int (nI v))]) hx hb dX3_leastListWith_18 rfl hl (by decide) rfl (fun ls hl => ?_)
      refine lv_iconst (v := nI 1) hx hb dX3_leastListWith_19 (by decide +kernel) ?_
      refine lv_iload_n hx hb dX3_leastListWith_20 rfl (lv_at hl 2 rfl) ?_
      refine lv_ishl hx hb dX3_leastListWith_21 ?_
      refine tI (y := nI (2 ^ v)) (shl1 v (by omega)) ?_
      refine lv_istore_n (lv' := [(3, .int (nI (2 ^ v))), (2, .int (-1)), (0, .ref sa), (1, .int (nI v))]) hx hb dX3_leastListWith_22 rfl hl (by decide) rfl (fun ls hl => ?_)
      refine lv_iconst (v := nI 0) hx hb dX3_leastListWith_23 (by decide +kernel) ?_
      refine lv_istore (lv' := [(4, .int (nI 0)), (3, .int (nI (2 ^ v))), (2, .int (-1)), (0, .ref sa), (1, .int (nI v))]) hx hb dX3_leastListWith_24 hl (by decide) rfl (fun ls hl => ?_)
      refine loopL (σ := Nat × Int32) (n := 6) (pc1 := 26) (fun (z_ : Nat × Int32) => match z_ with | (i, x) => 2 ^ v - i) (fun (z_ : Nat × Int32) => match z_ with | (i, x) => i ≤ 2 ^ v ∧ x = mfold (clR f v) i) (fun (z_ : Nat × Int32) => match z_ with | (i, x) => [(4, .int (nI i)), (3, .int (nI (2 ^ v))), (2, .int x), (0, .ref sa), (1, .int (nI v))]) (fun (z_ : Nat × Int32) => match z_ with | (i, x) => []) ?_ (0, (-1)) _ ⟨Nat.zero_le _, rfl⟩ (lv_sub hl [0, 1, 2, 3, 4] rfl)
      rintro ⟨i, x⟩ ls hI hl ih26
      have hl : lv_has ls 6 [(4, .int (nI i)), (3, .int (nI (2 ^ v))), (2, .int x), (0, .ref sa), (1, .int (nI v))] := hl
      replace hI : i ≤ 2 ^ v ∧ x = mfold (clR f v) i := hI
      obtain ⟨hi, hx1⟩ := hI
      refine tS (st' := []) rfl ?_
      refine lv_iload hx hb dX3_leastListWith_26 (lv_at hl 0 rfl) ?_
      refine lv_iload_n hx hb dX3_leastListWith_28 rfl (lv_at hl 1 rfl) ?_
      refine icmp_geN (tgt := 74) hx hb (by omega) (by omega) dX3_leastListWith_29 (by decide) (fun c29 => ?_) (fun c29 => ?_)
      · skip
        refine lv_iload_n hx hb dX3_leastListWith_74 rfl (lv_at hl 2 rfl) ?_
        refine tS (st' := [.int (fLs f v)]) (congrArg (fun z => [Value.int z]) (by unfold fLs; rw [if_pos hvq, hx1, show i = 2 ^ v by omega]; exact ls_eq hv8)) ?_
        exact W.iret hx hb hr (fun t ht hW => ⟨rfl, ht⟩) (fun _ h => nomatch h) dX3_leastListWith_75
      · skip
        refine lv_aload_n hx hb dX3_leastListWith_32 rfl (lv_at hl 3 rfl) ?_
        refine lv_iload_n hx hb dX3_leastListWith_33 rfl (lv_at hl 4 rfl) ?_
        refine lv_iload hx hb dX3_leastListWith_34 (lv_at hl 0 rfl) ?_
        refine pcall (st1 := [.int (b2 (clP f v i))]) (va_runV (As := [.int (nI v), .int (nI i)]) (rest := []) ⟨hx, hb, hml, hown, hts⟩ (c_X3_hasRoomFor l G sa cu se b0 b1 l0 l0w l0b l1 l1w l1b wi ww f hs v i (by omega) (by omega)) (cwV 2 hts gX3_leastListWith_X3_hasRoomFor rfl rfl rfl (by decide +kernel) ⟨Nat.le_of_ble_eq_true rfl, Nat.le_of_ble_eq_true rfl⟩) (PC.preV hE (va_recv hE.1 hP (ci := 3) (q0 := 0) rfl rfl) (hP.sub [0, 1, 2, 9, 12, 15, 16] rfl)) rfl rfl hl.1 rfl (lv_room (Nat.le_of_ble_eq_true rfl)) dX3_leastListWith_36 ⟨Nat.zero_le _, Nat.zero_le _⟩) rfl ?_
        refine lv_if_eq (tgt := 68) hx hb dX3_leastListWith_39 (by decide) (fun c39 => ?_) (fun c39 => ?_)
        · skip
          refine lv_iinc (v := nI (i + 1)) (lv' := [(4, .int (nI (i + 1))), (3, .int (nI (2 ^ v))), (2, .int x), (0, .ref sa), (1, .int (nI v))]) hx hb dX3_leastListWith_68 hl (k := 0) rfl (nI_inc1 _) (by decide) rfl (fun ls hl => ?_)
          refine lv_goto (tgt := 26) hx hb dX3_leastListWith_71 (by decide) ?_
          exact ih26 ((i + 1), x) _ ⟨by omega, by rw [hx1]; exact (mf_n (Or.inl (if_neg (b2_0.mp c39)))).symm⟩ (lv_sub hl [0, 1, 2, 3, 4] rfl) (by (try dsimp only); omega)
        · skip
          refine lv_aload_n hx hb dX3_leastListWith_42 rfl (lv_at hl 3 rfl) ?_
          refine lv_iload_n hx hb dX3_leastListWith_43 rfl (lv_at hl 4 rfl) ?_
          refine lv_iload hx hb dX3_leastListWith_44 (lv_at hl 0 rfl) ?_
          refine pcall (st1 := [.int (absI (clA f i v))]) (va_runV (As := [.int (nI v), .int (nI i)]) (rest := []) ⟨hx, hb, hml, hown, hts⟩ (c_X3_listOf l G sa cu se b0 b0w b0b b1 b1w b1b l0 l0w l0b l1 l1w l1b wi ww f v0 v1 w0 d0 w1 d1 w2 d2 w3 d3 hs hcp v i (by omega) (by omega) (by omega)) (cwV 2 hts gX3_leastListWith_X3_listOf rfl rfl rfl (by decide +kernel) ⟨Nat.le_of_ble_eq_true rfl, Nat.le_of_ble_eq_true rfl⟩) (PC.preV hE (va_recv hE.1 hP (ci := 3) (q0 := 0) rfl rfl) (hP.sub [0, 1, 2, 3, 4, 5, 6, 7, 8, 9, 10, 11, 12, 13, 14, 15, 16] rfl)) rfl rfl hl.1 rfl (lv_room (Nat.le_of_ble_eq_true rfl)) dX3_leastListWith_46 ⟨Nat.zero_le _, Nat.zero_le _⟩) rfl ?_
          refine lv_istore (lv' := [(5, .int (absI (clA f i v))), (4, .int (nI i)), (3, .int (nI (2 ^ v))), (2, .int x), (0, .ref sa), (1, .int (nI v))]) hx hb dX3_leastListWith_49 hl (by decide) rfl (fun ls hl => ?_)
          refine lv_iload_n hx hb dX3_leastListWith_51 rfl (lv_at hl 3 rfl) ?_
          refine lv_iconst (v := -1) hx hb dX3_leastListWith_52 (by decide +kernel) ?_
          have hcr : clR f v i = absI (clA f i v) := if_pos (b2_1.mp c39)
          have hcn : ¬ clR f v i = -1 := by rw [hcr]; exact clA_n ho hvq hv8
          refine cutL (σ := Int32) (n := 6) (pc1 := 67) (fun r => r = mfold (clR f v) (i + 1)) (fun r => [(5, .int (absI (clA f i v))), (4, .int (nI i)), (3, .int (nI (2 ^ v))), (2, .int x), (0, .ref sa), (1, .int (nI v))]) (fun r => [.int r]) ?_ (fun J67 => ?_)
          · rintro r ls hI hl
            have hl : lv_has ls 6 [(5, .int (absI (clA f i v))), (4, .int (nI i)), (3, .int (nI (2 ^ v))), (2, .int x), (0, .ref sa), (1, .int (nI v))] := hl
            replace hI : r = mfold (clR f v) (i + 1) := hI
            have hm := hI
            refine tS (st' := [.int r]) rfl ?_
            refine lv_istore_n (lv' := [(2, .int r), (5, .int (absI (clA f i v))), (4, .int (nI i)), (3, .int (nI (2 ^ v))), (0, .ref sa), (1, .int (nI v))]) hx hb dX3_leastListWith_67 rfl hl (by decide) rfl (fun ls hl => ?_)
            refine lv_iinc (v := nI (i + 1)) (lv' := [(4, .int (nI (i + 1))), (2, .int r), (5, .int (absI (clA f i v))), (3, .int (nI (2 ^ v))), (0, .ref sa), (1, .int (nI v))]) hx hb dX3_leastListWith_68 hl (k := 2) rfl (nI_inc1 _) (by decide) rfl (fun ls hl => ?_)
            refine lv_goto (tgt := 26) hx hb dX3_leastListWith_71 (by decide) ?_
            exact ih26 ((i + 1), r) _ ⟨by omega, hm⟩ (lv_sub hl [0, 3, 1, 4, 5] rfl) (by (try dsimp only); omega)
          · skip
            refine lv_icmp_ne (tgt := 61) hx hb dX3_leastListWith_53 (by decide) (fun c53 => ?_) (fun c53 => ?_)
            · skip
              refine lv_iload_n hx hb dX3_leastListWith_61 rfl (lv_at hl 3 rfl) ?_
              refine lv_iload hx hb dX3_leastListWith_62 (lv_at hl 0 rfl) ?_
              refine va_mmin hx hb (hml.trans hl.1.symm) hown w_2 w_3 w_4 w_5 (by decide) (Nat.le_of_ble_eq_true rfl) (Nat.zero_le _) (Nat.zero_le _) dX3_leastListWith_64 ?_
              exact J67 (if absI (clA f i v) < x then absI (clA f i v) else x) _ (mf_min hx1 hcr hcn c53) (lv_sub hl [0, 1, 2, 3, 4, 5] rfl)
            · skip
              refine lv_iload hx hb dX3_leastListWith_56 (lv_at hl 0 rfl) ?_
              refine lv_goto (tgt := 67) hx hb dX3_leastListWith_58 (by decide) ?_
              exact J67 (absI (clA f i v)) _ (by rw [mf_y hcn (Or.inl (by rw [← hx1]; exact c53)), hcr]) (lv_sub hl [0, 1, 2, 3, 4, 5] rfl)
    · skip
      refine lv_iconst (v := -1) hx hb dX3_leastListWith_15 (by decide +kernel) ?_
      refine tS (st' := [.int (fLs f v)]) (congrArg (fun z => [Value.int z]) (by unfold fLs; rw [if_neg (by rw [hbk]; exact Nat.not_le.mpr c12)])) ?_
      exact W.iret hx hb hr (fun t ht hW => ⟨rfl, ht⟩) (fun _ h => nomatch h) dX3_leastListWith_16

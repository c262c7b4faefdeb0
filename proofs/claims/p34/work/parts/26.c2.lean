set_option maxHeartbeats 4000000 in
set_option maxRecDepth 100000 in
theorem c_X4_tensionOf (l : Launch) (G : eG) (a w : Nat) (f : Nat → Int32) (y z : Int32) (k : Nat) (hk : k < 20) (cu wt li : Int32) : Met l yX4_tensionOf wsX4_tensionOf ({ frames := 1, cells := 0, slots := 0, locals := 21 }) (PC [.ref a, .int (nI k), .int cu, .int wt, .int li] G (fun H => va_P G.1 vwCl [(a, .inr (4, [.ref w, .int (f 47), .int y, .int z]))] H)) (PQ (some (.int (fTby f k cu li wt)))) 0 0 noA := by
  refine ofB (cc := cX4_tensionOf) (maxL := 7) (ret := (some .int)) (by decide) rfl (Nat.le_of_ble_eq_true rfl) ?_
  intro p e s m below meth c hx hb hr hlocks hml hown hin hts hE hI ls hl
  replace hown : s.vm.findClass RX4 = some m.cls := hown
  have hl : lv_has ls 7 [(0, .ref a), (1, .int (nI k)), (2, .int cu), (3, .int wt), (4, .int li)] := hl
  have hP : va_P G.1 vwCl [(a, .inr (4, [.ref w, .int (f 47), .int y, .int z]))] s.heap := hI
  have w_0 := hts (.methodLink RX4 33 Lib.Math.min.name) (by decide +kernel)
  have w_1 := hts (.static Lib.Math.min.name) (by decide +kernel)
  have w_2 := hts (.initialized "java/lang/Math") (by decide +kernel)
  have w_3 := hts (.code Lib.Math.min.name Lib.Math.min.code 2 (some .int)) (by decide +kernel)
  have w_4 : ∀ w ∈ u_ws RX4 TX4 4, w ∈ wsX4_tensionOf := by decide +kernel
  have w_5 := hts (.fieldLink RX4 15 "CableFerry$Wire" "slack" "I") (by decide +kernel)
  have w_6 := hts (.methodLink RX4 39 Lib.Math.max.name) (by decide +kernel)
  have w_7 := hts (.static Lib.Math.max.name) (by decide +kernel)
  have w_8 := hts (.code Lib.Math.max.name Lib.Math.max.code 2 (some .int)) (by decide +kernel)
  skip
  refine lv_iload_n hx hb dX4_tensionOf_0 rfl (lv_at hl 2 rfl) ?_
  refine lv_iload_n hx hb dX4_tensionOf_1 rfl (lv_at hl 1 rfl) ?_
  refine lv_iconst (v := nI 1) hx hb dX4_tensionOf_2 (by decide +kernel) ?_
  refine iaddN hx hb dX4_tensionOf_3 ?_
  refine lv_bipush (v := nI 20) hx hb dX4_tensionOf_4 (by decide +kernel) ?_
  refine lv_iload_n hx hb dX4_tensionOf_6 rfl (lv_at hl 1 rfl) ?_
  refine isubN hx hb (by omega) dX4_tensionOf_7 ?_
  refine va_mmin hx hb (hml.trans hl.1.symm) hown w_0 w_1 w_2 w_3 (by decide) (Nat.le_of_ble_eq_true rfl) (Nat.zero_le _) (Nat.zero_le _) dX4_tensionOf_8 ?_
  refine tI (y := nI (fFar k)) (far_min hk) ?_
  refine lv_imul hx hb dX4_tensionOf_11 ?_
  refine lv_bipush (v := nI 10) hx hb dX4_tensionOf_12 (by decide +kernel) ?_
  refine lv_idiv hx hb dX4_tensionOf_14 (nI_nz (by decide) (by decide)) ?_
  refine lv_istore (lv' := [(5, .int ((cu * (nI (fFar k))) / (nI 10))), (0, .ref a), (1, .int (nI k)), (2, .int cu), (3, .int wt), (4, .int li)]) hx hb dX4_tensionOf_15 hl (by decide) rfl (fun ls hl => ?_)
  refine lv_iload hx hb dX4_tensionOf_17 (lv_at hl 0 rfl) ?_
  refine lv_bipush (v := nI 20) hx hb dX4_tensionOf_19 (by decide +kernel) ?_
  refine lv_iload_n hx hb dX4_tensionOf_21 rfl (lv_at hl 4 rfl) ?_
  refine lv_iadd hx hb dX4_tensionOf_22 ?_
  refine lv_imul hx hb dX4_tensionOf_23 ?_
  refine lv_bipush (v := nI 10) hx hb dX4_tensionOf_24 (by decide +kernel) ?_
  refine lv_idiv hx hb dX4_tensionOf_26 (nI_nz (by decide) (by decide)) ?_
  refine lv_istore (lv' := [(6, .int ((((cu * (nI (fFar k))) / (nI 10)) * ((nI 20) + wt)) / (nI 10))), (5, .int ((cu * (nI (fFar k))) / (nI 10))), (0, .ref a), (1, .int (nI k)), (2, .int cu), (3, .int wt), (4, .int li)]) hx hb dX4_tensionOf_27 hl (by decide) rfl (fun ls hl => ?_)
  refine lv_iconst (v := nI 0) hx hb dX4_tensionOf_29 (by decide +kernel) ?_
  refine lv_iload hx hb dX4_tensionOf_30 (lv_at hl 0 rfl) ?_
  refine lv_iconst (v := nI 3) hx hb dX4_tensionOf_32 (by decide +kernel) ?_
  refine lv_iload hx hb dX4_tensionOf_33 (lv_at hl 6 rfl) ?_
  refine lv_imul hx hb dX4_tensionOf_35 ?_
  refine lv_iadd hx hb dX4_tensionOf_36 ?_
  refine lv_iconst (v := nI 4) hx hb dX4_tensionOf_37 (by decide +kernel) ?_
  refine lv_aload_n hx hb dX4_tensionOf_38 rfl (lv_at hl 2 rfl) ?_
  refine va_get (D := G.1) (ci := 4) (v := .int (f 47)) (C := RX4) (T := TX4) (N := 4) hx hb hts w_4 hown hE.1 hP 0 rfl rfl 1 (by decide) w_5 (fun _ h9 => h9) rfl dX4_tensionOf_39 ?_
  refine lv_imul hx hb dX4_tensionOf_42 ?_
  refine lv_isub hx hb dX4_tensionOf_43 ?_
  refine va_mmax hx hb (hml.trans hl.1.symm) hown w_6 w_7 w_2 w_8 (by decide) (Nat.le_of_ble_eq_true rfl) (Nat.zero_le _) (Nat.zero_le _) dX4_tensionOf_44 ?_
  refine tS (st' := [.int (fTby f k cu li wt)]) (congrArg (fun z => [Value.int z]) (by rw [max0]; rfl)) ?_
  exact W.iret hx hb hr (fun t ht hW => ⟨rfl, ht⟩) (fun _ h => nomatch h) dX4_tensionOf_47
set_option maxHeartbeats 4000000 in
set_option maxRecDepth 100000 in
theorem c_X4_greatestTension (l : Launch) (G : eG) (a w : Nat) (f : Nat → Int32) (y z : Int32) (cu wt li : Int32) : Met l yX4_greatestTension wsX4_greatestTension ({ frames := 2, cells := 0, slots := 0, locals := 47 }) (PC [.ref a, .int cu, .int wt, .int li] G (fun H => va_P G.1 vwCl [(a, .inr (4, [.ref w, .int (f 47), .int y, .int z]))] H)) (PQ (some (.int (fGre f cu li wt)))) 0 0 noA := by
  refine ofB (cc := cX4_greatestTension) (maxL := 6) (ret := (some .int)) (by decide) rfl (Nat.le_of_ble_eq_true rfl) ?_
  intro p e s m below meth c hx hb hr hlocks hml hown hin hts hE hI ls hl
  replace hown : s.vm.findClass RX4 = some m.cls := hown
  have hl : lv_has ls 6 [(0, .ref a), (1, .int cu), (2, .int wt), (3, .int li)] := hl
  have hP : va_P G.1 vwCl [(a, .inr (4, [.ref w, .int (f 47), .int y, .int z]))] s.heap := hI
  have w_0 := hts (.methodLink RX4 39 Lib.Math.max.name) (by decide +kernel)
  have w_1 := hts (.static Lib.Math.max.name) (by decide +kernel)
  have w_2 := hts (.initialized "java/lang/Math") (by decide +kernel)
  have w_3 := hts (.code Lib.Math.max.name Lib.Math.max.code 2 (some .int)) (by decide +kernel)
  skip
  refine lv_iconst (v := nI 0) hx hb dX4_greatestTension_0 (by decide +kernel) ?_
  refine lv_istore (lv' := [(4, .int (nI 0)), (0, .ref a), (1, .int cu), (2, .int wt), (3, .int li)]) hx hb dX4_greatestTension_1 hl (by decide) rfl (fun ls hl => ?_)
  refine lv_iconst (v := nI 0) hx hb dX4_greatestTension_3 (by decide +kernel) ?_
  refine lv_istore (lv' := [(5, .int (nI 0)), (4, .int (nI 0)), (0, .ref a), (1, .int cu), (2, .int wt), (3, .int li)]) hx hb dX4_greatestTension_4 hl (by decide) rfl (fun ls hl => ?_)
  refine loopL (σ := Nat × Int32) (n := 6) (pc1 := 6) (fun (z_ : Nat × Int32) => match z_ with | (i, acc) => 20 - i) (fun (z_ : Nat × Int32) => match z_ with | (i, acc) => i ≤ 20 ∧ acc = maxI (fun k => fTby f k cu li wt) i) (fun (z_ : Nat × Int32) => match z_ with | (i, acc) => [(5, .int (nI i)), (4, .int acc), (0, .ref a), (1, .int cu), (2, .int wt), (3, .int li)]) (fun (z_ : Nat × Int32) => match z_ with | (i, acc) => []) ?_ (0, nI 0) _ ⟨Nat.zero_le _, rfl⟩ (lv_sub hl [0, 1, 2, 3, 4, 5] rfl)
  rintro ⟨i, acc⟩ ls hI hl ih6
  have hl : lv_has ls 6 [(5, .int (nI i)), (4, .int acc), (0, .ref a), (1, .int cu), (2, .int wt), (3, .int li)] := hl
  replace hI : i ≤ 20 ∧ acc = maxI (fun k => fTby f k cu li wt) i := hI
  obtain ⟨hi, ha⟩ := hI
  refine tS (st' := []) rfl ?_
  refine lv_iload hx hb dX4_greatestTension_6 (lv_at hl 0 rfl) ?_
  refine lv_bipush (v := nI 20) hx hb dX4_greatestTension_8 (by decide +kernel) ?_
  refine icmp_geN (tgt := 35) hx hb (by omega) (by omega) dX4_greatestTension_10 (by decide) (fun c10 => ?_) (fun c10 => ?_)
  · skip
    refine lv_iload hx hb dX4_greatestTension_35 (lv_at hl 1 rfl) ?_
    refine tS (st' := [.int (fGre f cu li wt)]) (congrArg (fun z => [Value.int z]) (by rw [ha, show i = 20 by omega]; rfl)) ?_
    exact W.iret hx hb hr (fun t ht hW => ⟨rfl, ht⟩) (fun _ h => nomatch h) dX4_greatestTension_37
  · skip
    refine lv_iload hx hb dX4_greatestTension_13 (lv_at hl 1 rfl) ?_
    refine lv_aload_n hx hb dX4_greatestTension_15 rfl (lv_at hl 2 rfl) ?_
    refine lv_iload hx hb dX4_greatestTension_16 (lv_at hl 0 rfl) ?_
    refine lv_iload_n hx hb dX4_greatestTension_18 rfl (lv_at hl 3 rfl) ?_
    refine lv_iload_n hx hb dX4_greatestTension_19 rfl (lv_at hl 4 rfl) ?_
    refine lv_iload_n hx hb dX4_greatestTension_20 rfl (lv_at hl 5 rfl) ?_
    refine pcall (st1 := [.int (fTby f i cu li wt), .int acc]) (va_runV (As := [.int (nI i), .int cu, .int wt, .int li]) (rest := [.int acc]) ⟨hx, hb, hml, hown, hts⟩ (c_X4_tensionOf l G a w f y z i (by omega) cu wt li) (cwV 4 hts gX4_greatestTension_X4_tensionOf rfl rfl rfl (by decide +kernel) ⟨Nat.le_of_ble_eq_true rfl, Nat.le_of_ble_eq_true rfl⟩) (PC.preV hE (va_recv hE.1 hP (ci := 4) (q0 := 0) rfl rfl) (hP.sub [0] rfl)) rfl rfl hl.1 rfl (lv_room (Nat.le_of_ble_eq_true rfl)) dX4_greatestTension_21 ⟨Nat.zero_le _, Nat.zero_le _⟩) rfl ?_
    refine va_mmax hx hb (hml.trans hl.1.symm) hown w_0 w_1 w_2 w_3 (by decide) (Nat.le_of_ble_eq_true rfl) (Nat.zero_le _) (Nat.zero_le _) dX4_greatestTension_24 ?_
    refine tI (y := maxI (fun k => fTby f k cu li wt) (i + 1)) (by rw [ha]; exact maxI_mx) ?_
    refine lv_istore (lv' := [(4, .int (maxI (fun k => fTby f k cu li wt) (i + 1))), (5, .int (nI i)), (0, .ref a), (1, .int cu), (2, .int wt), (3, .int li)]) hx hb dX4_greatestTension_27 hl (by decide) rfl (fun ls hl => ?_)
    refine lv_iinc (v := nI (i + 1)) (lv' := [(5, .int (nI (i + 1))), (4, .int (maxI (fun k => fTby f k cu li wt) (i + 1))), (0, .ref a), (1, .int cu), (2, .int wt), (3, .int li)]) hx hb dX4_greatestTension_29 hl (k := 1) rfl (nI_inc1 _) (by decide) rfl (fun ls hl => ?_)
    refine lv_goto (tgt := 6) hx hb dX4_greatestTension_32 (by decide) ?_
    exact ih6 ((i + 1), (maxI (fun k => fTby f k cu li wt) (i + 1))) _ ⟨by omega, rfl⟩ (lv_sub hl [0, 1, 2, 3, 4, 5] rfl) (by (try dsimp only); omega)
set_option maxHeartbeats 4000000 in
set_option maxRecDepth 100000 in
theorem c_X4_wearOf (l : Launch) (G : eG) (a w : Nat) (f : Nat → Int32) (k : Nat) (hk : k < 20) : Met l yX4_wearOf wsX4_wearOf ({ frames := 1, cells := 0, slots := 0, locals := 21 }) (PC [.ref a, .int (nI k)] G (fun H => va_P G.1 vwCl [(a, .inr (4, [.ref w, .int (f 47), .int (f 48), .int (f 49)])), (w, .inl (G.2.1, 20, .inl (fun j => f (27 + j))))] H)) (PQ (some (.int (f (27 + k))))) 0 0 noA := by
  refine ofB (cc := cX4_wearOf) (maxL := 2) (ret := (some .int)) (by decide) rfl (Nat.le_of_ble_eq_true rfl) ?_
  intro p e s m below meth c hx hb hr hlocks hml hown hin hts hE hI ls hl
  replace hown : s.vm.findClass RX4 = some m.cls := hown
  have hl : lv_has ls 2 [(0, .ref a), (1, .int (nI k))] := hl
  have hP : va_P G.1 vwCl [(a, .inr (4, [.ref w, .int (f 47), .int (f 48), .int (f 49)])), (w, .inl (G.2.1, 20, .inl (fun j => f (27 + j))))] s.heap := hI
  have w_0 : ∀ w ∈ u_ws RX4 TX4 4, w ∈ wsX4_wearOf := by decide +kernel
  have w_1 := hts (.fieldLink RX4 9 "CableFerry$Wire" "wears" "[I") (by decide +kernel)
  have w_2 := hts (.static yX5_at) (by decide +kernel)
  skip
  refine lv_aload_n hx hb dX4_wearOf_0 rfl (lv_at hl 0 rfl) ?_
  refine va_get (D := G.1) (ci := 4) (v := .ref w) (C := RX4) (T := TX4) (N := 4) hx hb hts w_0 hown hE.1 hP 0 rfl rfl 0 (by decide) w_1 (fun _ h9 => h9) rfl dX4_wearOf_1 ?_
  refine lv_iload_n hx hb dX4_wearOf_4 rfl (lv_at hl 1 rfl) ?_
  refine pcall (st1 := [.int ((fun j => f (27 + j)) k)]) (va_runSN (As := [.ref w, .int (nI k)]) (rest := []) ⟨hx, hb, hml, hown, hts⟩ (c_X5_at l G w 20 (fun j => f (27 + j)) k (by omega) (by decide)) ⟨va_cnB 2 hts gX4_wearOf_X5_at_n29 rfl rfl rfl (hE.2 (RX4, 29, yX5_at) (by decide +kernel)) (hts (.initialized RX5) (by decide +kernel)) (by decide +kernel) ⟨Nat.le_of_ble_eq_true rfl, Nat.le_of_ble_eq_true rfl⟩, w_2, trivial⟩ (PC.preS hE (hP.sub [1] rfl)) rfl rfl hl.1 rfl (lv_room (Nat.le_of_ble_eq_true rfl)) dX4_wearOf_5 ⟨Nat.zero_le _, Nat.zero_le _⟩) rfl ?_
  refine tS (st' := [.int (f (27 + k))]) (congrArg (fun z => [Value.int z]) (rfl)) ?_
  exact W.iret hx hb hr (fun t ht hW => ⟨rfl, ht⟩) (fun _ h => nomatch h) dX4_wearOf_8
set_option maxHeartbeats 4000000 in
set_option maxRecDepth 100000 in
theorem c_X4_wearTogether (l : Launch) (G : eG) (a w : Nat) (f : Nat → Int32) : Met l yX4_wearTogether wsX4_wearTogether ({ frames := 1, cells := 0, slots := 0, locals := 21 }) (PC [.ref a] G (fun H => va_P G.1 vwCl [(a, .inr (4, [.ref w, .int (f 47), .int (f 48), .int (f 49)])), (w, .inl (G.2.1, 20, .inl (fun j => f (27 + j))))] H)) (PQ (some (.int (sumI (fun k => f (27 + k)) 20)))) 0 0 noA := by
  refine ofB (cc := cX4_wearTogether) (maxL := 3) (ret := (some .int)) (by decide) rfl (Nat.le_of_ble_eq_true rfl) ?_
  intro p e s m below meth c hx hb hr hlocks hml hown hin hts hE hI ls hl
  replace hown : s.vm.findClass RX4 = some m.cls := hown
  have hl : lv_has ls 3 [(0, .ref a)] := hl
  have hP : va_P G.1 vwCl [(a, .inr (4, [.ref w, .int (f 47), .int (f 48), .int (f 49)])), (w, .inl (G.2.1, 20, .inl (fun j => f (27 + j))))] s.heap := hI
  have w_0 : ∀ w ∈ u_ws RX4 TX4 4, w ∈ wsX4_wearTogether := by decide +kernel
  have w_1 := hts (.fieldLink RX4 9 "CableFerry$Wire" "wears" "[I") (by decide +kernel)
  have w_2 := hts (.static yX5_at) (by decide +kernel)
  skip
  refine lv_iconst (v := nI 0) hx hb dX4_wearTogether_0 (by decide +kernel) ?_
  refine lv_istore_n (lv' := [(1, .int (nI 0)), (0, .ref a)]) hx hb dX4_wearTogether_1 rfl hl (by decide) rfl (fun ls hl => ?_)
  refine lv_iconst (v := nI 0) hx hb dX4_wearTogether_2 (by decide +kernel) ?_
  refine lv_istore_n (lv' := [(2, .int (nI 0)), (1, .int (nI 0)), (0, .ref a)]) hx hb dX4_wearTogether_3 rfl hl (by decide) rfl (fun ls hl => ?_)
  refine loopL (σ := Nat × Int32) (n := 3) (pc1 := 4) (fun (z_ : Nat × Int32) => match z_ with | (i, acc) => 20 - i) (fun (z_ : Nat × Int32) => match z_ with | (i, acc) => i ≤ 20 ∧ acc = sumI (fun k => f (27 + k)) i) (fun (z_ : Nat × Int32) => match z_ with | (i, acc) => [(2, .int (nI i)), (1, .int acc), (0, .ref a)]) (fun (z_ : Nat × Int32) => match z_ with | (i, acc) => []) ?_ (0, nI 0) _ ⟨Nat.zero_le _, rfl⟩ (lv_sub hl [0, 1, 2] rfl)
  rintro ⟨i, acc⟩ ls hI hl ih4
  have hl : lv_has ls 3 [(2, .int (nI i)), (1, .int acc), (0, .ref a)] := hl
  replace hI : i ≤ 20 ∧ acc = sumI (fun k => f (27 + k)) i := hI
  obtain ⟨hi, ha⟩ := hI
  refine tS (st' := []) rfl ?_
  refine lv_iload_n hx hb dX4_wearTogether_4 rfl (lv_at hl 0 rfl) ?_
  refine lv_bipush (v := nI 20) hx hb dX4_wearTogether_5 (by decide +kernel) ?_
  refine icmp_geN (tgt := 27) hx hb (by omega) (by omega) dX4_wearTogether_7 (by decide) (fun c7 => ?_) (fun c7 => ?_)
  · skip
    refine lv_iload_n hx hb dX4_wearTogether_27 rfl (lv_at hl 1 rfl) ?_
    refine tS (st' := [.int (sumI (fun k => f (27 + k)) 20)]) (congrArg (fun z => [Value.int z]) (by rw [ha, show i = 20 by omega])) ?_
    exact W.iret hx hb hr (fun t ht hW => ⟨rfl, ht⟩) (fun _ h => nomatch h) dX4_wearTogether_28
  · skip
    refine lv_iload_n hx hb dX4_wearTogether_10 rfl (lv_at hl 1 rfl) ?_
    refine lv_aload_n hx hb dX4_wearTogether_11 rfl (lv_at hl 2 rfl) ?_
    refine va_get (D := G.1) (ci := 4) (v := .ref w) (C := RX4) (T := TX4) (N := 4) hx hb hts w_0 hown hE.1 hP 0 rfl rfl 0 (by decide) w_1 (fun _ h9 => h9) rfl dX4_wearTogether_12 ?_
    refine lv_iload_n hx hb dX4_wearTogether_15 rfl (lv_at hl 0 rfl) ?_
    refine pcall (st1 := [.int ((fun j => f (27 + j)) i), .int acc]) (va_runSN (As := [.ref w, .int (nI i)]) (rest := [.int acc]) ⟨hx, hb, hml, hown, hts⟩ (c_X5_at l G w 20 (fun j => f (27 + j)) i (by omega) (by decide)) ⟨va_cnB 2 hts gX4_wearTogether_X5_at_n29 rfl rfl rfl (hE.2 (RX4, 29, yX5_at) (by decide +kernel)) (hts (.initialized RX5) (by decide +kernel)) (by decide +kernel) ⟨Nat.le_of_ble_eq_true rfl, Nat.le_of_ble_eq_true rfl⟩, w_2, trivial⟩ (PC.preS hE (hP.sub [1] rfl)) rfl rfl hl.1 rfl (lv_room (Nat.le_of_ble_eq_true rfl)) dX4_wearTogether_16 ⟨Nat.zero_le _, Nat.zero_le _⟩) rfl ?_
    refine tI (y := f (27 + i)) (rfl) ?_
    refine lv_iadd hx hb dX4_wearTogether_19 ?_
    refine lv_istore_n (lv' := [(1, .int (acc + (f (27 + i)))), (2, .int (nI i)), (0, .ref a)]) hx hb dX4_wearTogether_20 rfl hl (by decide) rfl (fun ls hl => ?_)
    refine lv_iinc (v := nI (i + 1)) (lv' := [(2, .int (nI (i + 1))), (1, .int (acc + (f (27 + i)))), (0, .ref a)]) hx hb dX4_wearTogether_21 hl (k := 1) rfl (nI_inc1 _) (by decide) rfl (fun ls hl => ?_)
    refine lv_goto (tgt := 4) hx hb dX4_wearTogether_24 (by decide) ?_
    exact ih4 ((i + 1), (acc + (f (27 + i)))) _ ⟨by omega, by rw [ha]; rfl⟩ (lv_sub hl [0, 1, 2] rfl) (by (try dsimp only); omega)
set_option maxHeartbeats 4000000 in
set_option maxRecDepth 100000 in
theorem c_X4_strengthOf (l : Launch) (G : eG) (a w : Nat) (f : Nat → Int32) (k : Nat) (hk : k < 20) : Met l yX4_strengthOf wsX4_strengthOf ({ frames := 1, cells := 0, slots := 0, locals := 21 }) (PC [.ref a, .int (nI k), .int (f 0)] G (fun H => va_P G.1 vwCl [(a, .inr (4, [.ref w, .int (f 47), .int (f 48), .int (f 49)])), (w, .inl (G.2.1, 20, .inl (fun j => f (27 + j))))] H)) (PQ (some (.int (fStr f k)))) 0 0 noA := by
  refine ofB (cc := cX4_strengthOf) (maxL := 3) (ret := (some .int)) (by decide) rfl (Nat.le_of_ble_eq_true rfl) ?_
  intro p e s m below meth c hx hb hr hlocks hml hown hin hts hE hI ls hl
  replace hown : s.vm.findClass RX4 = some m.cls := hown
  have hl : lv_has ls 3 [(0, .ref a), (1, .int (nI k)), (2, .int (f 0))] := hl
  have hP : va_P G.1 vwCl [(a, .inr (4, [.ref w, .int (f 47), .int (f 48), .int (f 49)])), (w, .inl (G.2.1, 20, .inl (fun j => f (27 + j))))] s.heap := hI
  have w_0 : ∀ w ∈ u_ws RX4 TX4 4, w ∈ wsX4_strengthOf := by decide +kernel
  have w_1 := hts (.fieldLink RX4 9 "CableFerry$Wire" "wears" "[I") (by decide +kernel)
  have w_2 := hts (.static yX5_at) (by decide +kernel)
  have w_3 := hts (.methodLink RX4 39 Lib.Math.max.name) (by decide +kernel)
  have w_4 := hts (.static Lib.Math.max.name) (by decide +kernel)
  have w_5 := hts (.initialized "java/lang/Math") (by decide +kernel)
  have w_6 := hts (.code Lib.Math.max.name Lib.Math.max.code 2 (some .int)) (by decide +kernel)
  skip
  refine lv_iconst (v := nI 0) hx hb dX4_strengthOf_0 (by decide +kernel) ?_
  refine lv_iload_n hx hb dX4_strengthOf_1 rfl (lv_at hl 2 rfl) ?_
  refine lv_aload_n hx hb dX4_strengthOf_2 rfl (lv_at hl 0 rfl) ?_
  refine va_get (D := G.1) (ci := 4) (v := .ref w) (C := RX4) (T := TX4) (N := 4) hx hb hts w_0 hown hE.1 hP 0 rfl rfl 0 (by decide) w_1 (fun _ h9 => h9) rfl dX4_strengthOf_3 ?_
  refine lv_iload_n hx hb dX4_strengthOf_6 rfl (lv_at hl 1 rfl) ?_
  refine pcall (st1 := [.int ((fun j => f (27 + j)) k), .int (f 0), .int (nI 0)]) (va_runSN (As := [.ref w, .int (nI k)]) (rest := [.int (f 0), .int (nI 0)]) ⟨hx, hb, hml, hown, hts⟩ (c_X5_at l G w 20 (fun j => f (27 + j)) k (by omega) (by decide)) ⟨va_cnB 2 hts gX4_strengthOf_X5_at_n29 rfl rfl rfl (hE.2 (RX4, 29, yX5_at) (by decide +kernel)) (hts (.initialized RX5) (by decide +kernel)) (by decide +kernel) ⟨Nat.le_of_ble_eq_true rfl, Nat.le_of_ble_eq_true rfl⟩, w_2, trivial⟩ (PC.preS hE (hP.sub [1] rfl)) rfl rfl hl.1 rfl (lv_room (Nat.le_of_ble_eq_true rfl)) dX4_strengthOf_7 ⟨Nat.zero_le _, Nat.zero_le _⟩) rfl ?_
  refine tI (y := f (27 + k)) (rfl) ?_
  refine lv_iconst (v := nI 2) hx hb dX4_strengthOf_10 (by decide +kernel) ?_
  refine lv_idiv hx hb dX4_strengthOf_11 (nI_nz (by decide) (by decide)) ?_
  refine lv_isub hx hb dX4_strengthOf_12 ?_
  refine va_mmax hx hb (hml.trans hl.1.symm) hown w_3 w_4 w_5 w_6 (by decide) (Nat.le_of_ble_eq_true rfl) (Nat.zero_le _) (Nat.zero_le _) dX4_strengthOf_13 ?_
  refine tS (st' := [.int (fStr f k)]) (congrArg (fun z => [Value.int z]) (by rw [max0]; rfl)) ?_
  exact W.iret hx hb hr (fun t ht hW => ⟨rfl, ht⟩) (fun _ h => nomatch h) dX4_strengthOf_16
set_option maxHeartbeats 4000000 in
set_option maxRecDepth 100000 in
theorem c_X4_canBear (l : Launch) (G : eG) (a w : Nat) (f : Nat → Int32) : Met l yX4_canBear wsX4_canBear ({ frames := 2, cells := 0, slots := 0, locals := 47 }) (PC [.ref a, .int (f (3 + nn f 50 % 24)), .int (fLw f 0 + fLw f 1), .int (fLst f), .int (f 0)] G (fun H => va_P G.1 vwCl [(a, .inr (4, [.ref w, .int (f 47), .int (f 48), .int (f 49)])), (w, .inl (G.2.1, 20, .inl (fun j => f (27 + j))))] H)) (PQ (some (.int (b2 (fBears f 20 = true))))) 0 0 noA := by
  refine ofB (cc := cX4_canBear) (maxL := 6) (ret := (some .boolean)) (by decide) rfl (Nat.le_of_ble_eq_true rfl) ?_
  intro p e s m below meth c hx hb hr hlocks hml hown hin hts hE hI ls hl
  replace hown : s.vm.findClass RX4 = some m.cls := hown
  have hl : lv_has ls 6 [(0, .ref a), (1, .int (f (3 + nn f 50 % 24))), (2, .int (fLw f 0 + fLw f 1)), (3, .int (fLst f)), (4, .int (f 0))] := hl
  have hP : va_P G.1 vwCl [(a, .inr (4, [.ref w, .int (f 47), .int (f 48), .int (f 49)])), (w, .inl (G.2.1, 20, .inl (fun j => f (27 + j))))] s.heap := hI
  skip
  refine lv_iconst (v := nI 0) hx hb dX4_canBear_0 (by decide +kernel) ?_
  refine lv_istore (lv' := [(5, .int (nI 0)), (0, .ref a), (1, .int (f (3 + nn f 50 % 24))), (2, .int (fLw f 0 + fLw f 1)), (3, .int (fLst f)), (4, .int (f 0))]) hx hb dX4_canBear_1 hl (by decide) rfl (fun ls hl => ?_)
  refine loopL (σ := Nat) (n := 6) (pc1 := 3) (fun i => 20 - i) (fun i => i ≤ 20 ∧ fBears f i = true) (fun i => [(5, .int (nI i)), (0, .ref a), (1, .int (f (3 + nn f 50 % 24))), (2, .int (fLw f 0 + fLw f 1)), (3, .int (fLst f)), (4, .int (f 0))]) (fun i => []) ?_ (0) _ ⟨Nat.zero_le _, rfl⟩ (lv_sub hl [0, 1, 2, 3, 4, 5] rfl)
  rintro i ls hI hl ih3
  have hl : lv_has ls 6 [(5, .int (nI i)), (0, .ref a), (1, .int (f (3 + nn f 50 % 24))), (2, .int (fLw f 0 + fLw f 1)), (3, .int (fLst f)), (4, .int (f 0))] := hl
  replace hI : i ≤ 20 ∧ fBears f i = true := hI
  obtain ⟨hi, hbe⟩ := hI
  refine tS (st' := []) rfl ?_
  refine lv_iload hx hb dX4_canBear_3 (lv_at hl 0 rfl) ?_
  refine lv_bipush (v := nI 20) hx hb dX4_canBear_5 (by decide +kernel) ?_
  refine icmp_geN (tgt := 38) hx hb (by omega) (by omega) dX4_canBear_7 (by decide) (fun c7 => ?_) (fun c7 => ?_)
  · skip
    refine lv_iconst (v := nI 1) hx hb dX4_canBear_38 (by decide +kernel) ?_
    refine tS (st' := [.int (b2 (fBears f 20 = true))]) (congrArg (fun z => [Value.int z]) ((b2_t (by rw [show (20 : Nat) = i by omega]; exact hbe)).symm)) ?_
    exact W.zret hx hb hr (b2_z _) (fun t ht hW => ⟨rfl, ht⟩) (fun _ h => nomatch h) dX4_canBear_39
  · skip
    refine lv_aload_n hx hb dX4_canBear_10 rfl (lv_at hl 1 rfl) ?_
    refine lv_iload hx hb dX4_canBear_11 (lv_at hl 0 rfl) ?_
    refine lv_iload_n hx hb dX4_canBear_13 rfl (lv_at hl 2 rfl) ?_
    refine lv_iload_n hx hb dX4_canBear_14 rfl (lv_at hl 3 rfl) ?_
    refine lv_iload_n hx hb dX4_canBear_15 rfl (lv_at hl 4 rfl) ?_
    refine pcall (st1 := [.int (fTby f i (f (3 + nn f 50 % 24)) (fLst f) (fLw f 0 + fLw f 1))]) (va_runV (As := [.int (nI i), .int (f (3 + nn f 50 % 24)), .int (fLw f 0 + fLw f 1), .int (fLst f)]) (rest := []) ⟨hx, hb, hml, hown, hts⟩ (c_X4_tensionOf l G a w f (f 48) (f 49) i (by omega) (f (3 + nn f 50 % 24)) (fLw f 0 + fLw f 1) (fLst f)) (cwV 4 hts gX4_canBear_X4_tensionOf rfl rfl rfl (by decide +kernel) ⟨Nat.le_of_ble_eq_true rfl, Nat.le_of_ble_eq_true rfl⟩) (PC.preV hE (va_recv hE.1 hP (ci := 4) (q0 := 0) rfl rfl) (hP.sub [0] rfl)) rfl rfl hl.1 rfl (lv_room (Nat.le_of_ble_eq_true rfl)) dX4_canBear_16 ⟨Nat.zero_le _, Nat.zero_le _⟩) rfl ?_
    refine tI (y := fTen f i) (rfl) ?_
    refine lv_aload_n hx hb dX4_canBear_19 rfl (lv_at hl 1 rfl) ?_
    refine lv_iload hx hb dX4_canBear_20 (lv_at hl 0 rfl) ?_
    refine lv_iload hx hb dX4_canBear_22 (lv_at hl 5 rfl) ?_
    refine pcall (st1 := [.int (fStr f i), .int (fTen f i)]) (va_runV (As := [.int (nI i), .int (f 0)]) (rest := [.int (fTen f i)]) ⟨hx, hb, hml, hown, hts⟩ (c_X4_strengthOf l G a w f i (by omega)) (cwV 2 hts gX4_canBear_X4_strengthOf rfl rfl rfl (by decide +kernel) ⟨Nat.le_of_ble_eq_true rfl, Nat.le_of_ble_eq_true rfl⟩) (PC.preV hE (va_recv hE.1 hP (ci := 4) (q0 := 0) rfl rfl) (hP.sub [0, 1] rfl)) rfl rfl hl.1 rfl (lv_room (Nat.le_of_ble_eq_true rfl)) dX4_canBear_24 ⟨Nat.zero_le _, Nat.zero_le _⟩) rfl ?_
    refine lv_icmp_le (tgt := 32) hx hb dX4_canBear_27 (by decide) (fun c27 => ?_) (fun c27 => ?_)
    · skip
      refine lv_iinc (v := nI (i + 1)) (lv' := [(5, .int (nI (i + 1))), (0, .ref a), (1, .int (f (3 + nn f 50 % 24))), (2, .int (fLw f 0 + fLw f 1)), (3, .int (fLst f)), (4, .int (f 0))]) hx hb dX4_canBear_32 hl (k := 0) rfl (nI_inc1 _) (by decide) rfl (fun ls hl => ?_)
      refine lv_goto (tgt := 3) hx hb dX4_canBear_35 (by decide) ?_
      exact ih3 (i + 1) _ ⟨by omega, fbears_s hbe c27⟩ (lv_sub hl [0, 1, 2, 3, 4, 5] rfl) (by (try dsimp only); omega)
    · skip
      refine lv_iconst (v := nI 0) hx hb dX4_canBear_30 (by decide +kernel) ?_
      refine tS (st' := [.int (b2 (fBears f 20 = true))]) (congrArg (fun z => [Value.int z]) ((b2_f (by rw [fbears_f c27 20 (by omega)]; decide)).symm)) ?_
      exact W.zret hx hb hr (b2_z _) (fun t ht hW => ⟨rfl, ht⟩) (fun _ h => nomatch h) dX4_canBear_31
set_option maxHeartbeats 4000000 in
set_option maxRecDepth 100000 in
theorem c_X4_bear (l : Launch) (G : eG) (a w : Nat) (f : Nat → Int32) (hs : Shp f) (hc : Cro f) : Met l yX4_bear wsX4_bear ({ frames := 2, cells := 0, slots := 0, locals := 47 }) (PC [.ref a, .int (f (3 + nn f 50 % 24)), .int (fLw f 0 + fLw f 1), .int (fLst f), .int (f 2)] G (fun H => va_P G.1 vwCl [(a, .inr (4, [.ref w, .int (f 47), .int (f 48), .int (f 49)])), (w, .inl (G.2.1, 20, .inl (fun j => f (27 + j))))] H ∧ va_D (fun _ => True) [(a, .inr (4, [.ref w, .int (f 47), .int (f 48), .int (f 49)])), (w, .inl (G.2.1, 20, .inl (fun j => f (27 + j))))])) (MV (none) (fun H => va_P G.1 vwCl [(a, .inr (4, [.ref w, .int ((fC1 f) 47), .int ((fC1 f) 48), .int ((fC1 f) 49)])), (w, .inl (G.2.1, 20, .inl (fun j => (fC1 f) (27 + j))))] H ∧ va_D (inW [(a, .inr (4, [.ref w, .int (f 47), .int (f 48), .int (f 49)])), (w, .inl (G.2.1, 20, .inl (fun j => f (27 + j))))]) [(a, .inr (4, [.ref w, .int ((fC1 f) 47), .int ((fC1 f) 48), .int ((fC1 f) 49)])), (w, .inl (G.2.1, 20, .inl (fun j => (fC1 f) (27 + j))))]) (inW [(a, .inr (4, [.ref w, .int (f 47), .int (f 48), .int (f 49)])), (w, .inl (G.2.1, 20, .inl (fun j => f (27 + j))))])) 0 0 (inW [(a, .inr (4, [.ref w, .int (f 47), .int (f 48), .int (f 49)])), (w, .inl (G.2.1, 20, .inl (fun j => f (27 + j))))]) := by
  refine ofB (cc := cX4_bear) (maxL := 9) (ret := none) (by decide) rfl (Nat.le_of_ble_eq_true rfl) ?_
  intro p e s m below meth c hx hb hr hlocks hml hown hin hts hE hI ls hl
  replace hown : s.vm.findClass RX4 = some m.cls := hown
  have hl : lv_has ls 9 [(0, .ref a), (1, .int (f (3 + nn f 50 % 24))), (2, .int (fLw f 0 + fLw f 1)), (3, .int (fLst f)), (4, .int (f 2))] := hl
  obtain ⟨hP, hD0⟩ := hI
  have hD : va_D (inW [(a, .inr (4, [.ref w, .int (f 47), .int (f 48), .int (f 49)])), (w, .inl (G.2.1, 20, .inl (fun j => f (27 + j))))]) [(a, .inr (4, [.ref w, .int (f 47), .int (f 48), .int (f 49)])), (w, .inl (G.2.1, 20, .inl (fun j => f (27 + j))))] := D_self hD0
  obtain ⟨A, hAe⟩ : ∃ A, A = inW [(a, .inr (4, [.ref w, .int (f 47), .int (f 48), .int (f 49)])), (w, .inl (G.2.1, 20, .inl (fun j => f (27 + j))))] := ⟨_, rfl⟩
  rw [← hAe] at hD ⊢
  have hS : va_S A s.heap s.heap [] := va_S.rf
  obtain ⟨H, hHe⟩ : ∃ H, H = s.heap := ⟨_, rfl⟩
  obtain ⟨locs, hle⟩ : ∃ q : List Loc, q = [] := ⟨_, rfl⟩
  rw [← hle] at hS ⊢
  have hP : va_P G.1 vwCl [(a, .inr (4, [.ref w, .int (f 47), .int (f 48), .int (f 49)])), (w, .inl (G.2.1, 20, .inl (fun j => f (27 + j))))] H := by rw [hHe]; exact hP
  replace hS : va_S A s.heap H locs := by rw [hHe]; exact hS
  refine tH hHe ?_
  have w_0 : ∀ w ∈ u_ws RX4 TX4 4, w ∈ wsX4_bear := by decide +kernel
  have w_1 := hts (.fieldLink RX4 19 "CableFerry$Wire" "stretch" "I") (by decide +kernel)
  have w_2 := hts (.fieldLink RX4 15 "CableFerry$Wire" "slack" "I") (by decide +kernel)
  have w_3 := hts (.methodLink RX4 33 Lib.Math.min.name) (by decide +kernel)
  have w_4 := hts (.static Lib.Math.min.name) (by decide +kernel)
  have w_5 := hts (.initialized "java/lang/Math") (by decide +kernel)
  have w_6 := hts (.code Lib.Math.min.name Lib.Math.min.code 2 (some .int)) (by decide +kernel)
  have w_7 := hts (.fieldLink RX4 9 "CableFerry$Wire" "wears" "[I") (by decide +kernel)
  have w_8 := hts (.static yX5_at) (by decide +kernel)
  have w_9 := hts (.methodLink RX4 39 Lib.Math.max.name) (by decide +kernel)
  have w_10 := hts (.static Lib.Math.max.name) (by decide +kernel)
  have w_11 := hts (.code Lib.Math.max.name Lib.Math.max.code 2 (some .int)) (by decide +kernel)
  have w_12 := hts (.static yX5_put) (by decide +kernel)
  obtain ⟨x1, x2, x3, x4⟩ := hc
  obtain ⟨h2, h2a, h2b⟩ := hs.2.2.2.2
  refine lv_aload_n hx hb dX4_bear_0 rfl (lv_at hl 0 rfl) ?_
  refine va_get (D := G.1) (ci := 4) (v := .int (f 48)) (C := RX4) (T := TX4) (N := 4) hx hb hts w_0 hown hE.1 hP 0 rfl rfl 2 (by decide) w_1 (fun _ h9 => h9) rfl dX4_bear_1 ?_
  refine lv_istore (lv' := [(5, .int (f 48)), (0, .ref a), (1, .int (f (3 + nn f 50 % 24))), (2, .int (fLw f 0 + fLw f 1)), (3, .int (fLst f)), (4, .int (f 2))]) hx hb dX4_bear_4 hl (by decide) rfl (fun ls hl => ?_)
  refine lv_iconst (v := nI 0) hx hb dX4_bear_6 (by decide +kernel) ?_
  refine lv_istore (lv' := [(6, .int (nI 0)), (5, .int (f 48)), (0, .ref a), (1, .int (f (3 + nn f 50 % 24))), (2, .int (fLw f 0 + fLw f 1)), (3, .int (fLst f)), (4, .int (f 2))]) hx hb dX4_bear_7 hl (by decide) rfl (fun ls hl => ?_)
  refine loopH (σ := Nat × Int32) (n := 9) (pc1 := 9) (fun (z_ : Nat × Int32) => match z_ with | (i, acc) => 20 - i) (fun (z_ : Nat × Int32) => match z_ with | (i, acc) => i ≤ 20 ∧ acc = f 48 + sumI (fTen f) i) (fun (z_ : Nat × Int32) => match z_ with | (i, acc) => fun (H : Heap) (locs : List Loc) => va_P G.1 vwCl [(a, .inr (4, [.ref w, .int (f 47), .int (f 48), .int (f 49)])), (w, .inl (G.2.1, 20, .inl (fun j => crW f i (27 + j))))] H ∧ va_D A [(a, .inr (4, [.ref w, .int (f 47), .int (f 48), .int (f 49)])), (w, .inl (G.2.1, 20, .inl (fun j => crW f i (27 + j))))] ∧ va_S A s.heap H locs) (fun (z_ : Nat × Int32) => match z_ with | (i, acc) => [(6, .int (nI i)), (5, .int acc), (0, .ref a), (1, .int (f (3 + nn f 50 % 24))), (2, .int (fLw f 0 + fLw f 1)), (3, .int (fLst f)), (4, .int (f 2))]) (fun (z_ : Nat × Int32) => match z_ with | (i, acc) => []) ?_ (0, f 48) H _ _ ⟨Nat.zero_le _, by show _ = f 48 + nI 0; rw [nI_0, Int32.add_zero]⟩ (by (try dsimp only); rw [crWj_0]; exact ⟨hP, hD, hS⟩) (lv_sub hl [0, 1, 2, 3, 4, 5, 6] rfl)
  rintro ⟨i, acc⟩ H locs ls hI ⟨hP, hD, hS⟩ hl ih9
  have hl : lv_has ls 9 [(6, .int (nI i)), (5, .int acc), (0, .ref a), (1, .int (f (3 + nn f 50 % 24))), (2, .int (fLw f 0 + fLw f 1)), (3, .int (fLst f)), (4, .int (f 2))] := hl
  replace hI : i ≤ 20 ∧ acc = f 48 + sumI (fTen f) i := hI
  obtain ⟨hi, ha⟩ := hI
  have hP : va_P G.1 vwCl [(a, .inr (4, [.ref w, .int (f 47), .int (f 48), .int (f 49)])), (w, .inl (G.2.1, 20, .inl (fun j => crW f i (27 + j))))] H := hP
  have hD : va_D A [(a, .inr (4, [.ref w, .int (f 47), .int (f 48), .int (f 49)])), (w, .inl (G.2.1, 20, .inl (fun j => crW f i (27 + j))))] := hD
  refine tS (st' := []) rfl ?_
  refine lv_iload hx hb dX4_bear_9 (lv_at hl 0 rfl) ?_
  refine lv_bipush (v := nI 20) hx hb dX4_bear_11 (by decide +kernel) ?_
  refine icmp_geN (tgt := 78) hx hb (by omega) (by omega) dX4_bear_13 (by decide) (fun c13 => ?_) (fun c13 => ?_)
  · skip
    have hj : i = 20 := by omega
    rw [hj] at hP hD
    have hP : va_P G.1 vwCl [(a, .inr (4, [.ref w, .int (f 47), .int (f 48), .int (f 49)])), (w, .inl (G.2.1, 20, .inl (fun j => crW f 20 (27 + j))))] H := hP
    have hD : va_D A [(a, .inr (4, [.ref w, .int (f 47), .int (f 48), .int (f 49)])), (w, .inl (G.2.1, 20, .inl (fun j => crW f 20 (27 + j))))] := hD
    replace hP := P_ext (ws' := [(a, .inr (4, [.ref w, .int (f 47), .int (f 48), .int (f 49)])), (w, .inl (G.2.1, 20, .inl (fun j => (fC1 f) (27 + j))))]) (g := fun j => (fC1 f) (27 + j)) 1 rfl rfl c1_w hP
    replace hD := va_D.set (p := 1) (e := .inl (G.2.1, 20, .inl (fun j => (fC1 f) (27 + j)))) hD rfl
    have hP : va_P G.1 vwCl [(a, .inr (4, [.ref w, .int (f 47), .int (f 48), .int (f 49)])), (w, .inl (G.2.1, 20, .inl (fun j => (fC1 f) (27 + j))))] H := hP
    have hD : va_D A [(a, .inr (4, [.ref w, .int (f 47), .int (f 48), .int (f 49)])), (w, .inl (G.2.1, 20, .inl (fun j => (fC1 f) (27 + j))))] := hD
    refine lv_aload_n hx hb dX4_bear_78 rfl (lv_at hl 2 rfl) ?_
    refine lv_bipush (v := nI 30) hx hb dX4_bear_79 (by decide +kernel) ?_
    refine lv_aload_n hx hb dX4_bear_81 rfl (lv_at hl 2 rfl) ?_
    refine va_get (D := G.1) (ci := 4) (v := .int (f 47)) (C := RX4) (T := TX4) (N := 4) hx hb hts w_0 hown hE.1 hP 0 rfl rfl 1 (by decide) w_2 (fun _ h9 => h9) rfl dX4_bear_82 ?_
    refine tI (y := nI (nn f 47)) (x3) ?_
    refine lv_iload hx hb dX4_bear_85 (lv_at hl 1 rfl) ?_
    refine tI (y := nI (fX f)) (by rw [ha, hj]; exact x1) ?_
    refine lv_sipush (v := nI 500) hx hb dX4_bear_87 (by decide +kernel) ?_
    refine idivN hx hb (by omega) (by decide) (by decide) dX4_bear_90 ?_
    refine iaddN hx hb dX4_bear_91 ?_
    refine va_mmin hx hb (hml.trans hl.1.symm) hown w_3 w_4 w_5 w_6 (by decide) (Nat.le_of_ble_eq_true rfl) (Nat.zero_le _) (Nat.zero_le _) dX4_bear_92 ?_
    refine tI (y := nI (fSl f)) (min30 (x := nn f 47 + fX f / 500) (by omega)) ?_
    refine va_put (D := G.1) (ci := 4) (v := .int (nI (fSl f))) (ty := .int) (C := RX4) (T := TX4) (N := 4) hx hb hts w_0 tyX4 tyX4_ok nmX4 hown hE.1 hP hD hS 0 rfl rfl 1 (by decide) w_2 (fun _ h9 => h9) rfl (by decide +kernel) rfl rfl (Nat.le_of_ble_eq_true rfl) dX4_bear_95 (fun H locs hP hD hS => ?_)
    have hP : va_P G.1 vwCl [(a, .inr (4, [.ref w, .int (nI (fSl f)), .int (f 48), .int (f 49)])), (w, .inl (G.2.1, 20, .inl (fun j => (fC1 f) (27 + j))))] H := hP
    have hD : va_D A [(a, .inr (4, [.ref w, .int (nI (fSl f)), .int (f 48), .int (f 49)])), (w, .inl (G.2.1, 20, .inl (fun j => (fC1 f) (27 + j))))] := hD
    refine lv_aload_n hx hb dX4_bear_98 rfl (lv_at hl 2 rfl) ?_
    refine lv_iload hx hb dX4_bear_99 (lv_at hl 1 rfl) ?_
    refine tI (y := nI (fX f)) (by rw [ha, hj]; exact x1) ?_
    refine lv_sipush (v := nI 500) hx hb dX4_bear_101 (by decide +kernel) ?_
    refine iremN hx hb (by omega) (by decide) (by decide) dX4_bear_104 ?_
    refine va_put (D := G.1) (ci := 4) (v := .int (nI ((fX f) % 500))) (ty := .int) (C := RX4) (T := TX4) (N := 4) hx hb hts w_0 tyX4 tyX4_ok nmX4 hown hE.1 hP hD hS 0 rfl rfl 2 (by decide) w_1 (fun _ h9 => h9) rfl (by decide +kernel) rfl rfl (Nat.le_of_ble_eq_true rfl) dX4_bear_105 (fun H locs hP hD hS => ?_)
    have hP : va_P G.1 vwCl [(a, .inr (4, [.ref w, .int (nI (fSl f)), .int (nI ((fX f) % 500)), .int (f 49)])), (w, .inl (G.2.1, 20, .inl (fun j => (fC1 f) (27 + j))))] H := hP
    have hD : va_D A [(a, .inr (4, [.ref w, .int (nI (fSl f)), .int (nI ((fX f) % 500)), .int (f 49)])), (w, .inl (G.2.1, 20, .inl (fun j => (fC1 f) (27 + j))))] := hD
    exact W.vret hx hb hr (fun t ht hW => ⟨rfl, by rw [ht]; exact (by rw [c1_47, c1_48, c1_49]; exact ⟨hP, hD⟩), hS.F ht⟩) hS.2.2 dX4_bear_108
  · skip
    refine lv_aload_n hx hb dX4_bear_16 rfl (lv_at hl 2 rfl) ?_
    refine lv_iload hx hb dX4_bear_17 (lv_at hl 0 rfl) ?_
    refine lv_iload_n hx hb dX4_bear_19 rfl (lv_at hl 3 rfl) ?_
    refine lv_iload_n hx hb dX4_bear_20 rfl (lv_at hl 4 rfl) ?_
    refine lv_iload_n hx hb dX4_bear_21 rfl (lv_at hl 5 rfl) ?_
    refine pcall (st1 := [.int (fTby f i (f (3 + nn f 50 % 24)) (fLst f) (fLw f 0 + fLw f 1))]) (va_runV (As := [.int (nI i), .int (f (3 + nn f 50 % 24)), .int (fLw f 0 + fLw f 1), .int (fLst f)]) (rest := []) ⟨hx, hb, hml, hown, hts⟩ (c_X4_tensionOf l G a w f (f 48) (f 49) i (by omega) (f (3 + nn f 50 % 24)) (fLw f 0 + fLw f 1) (fLst f)) (cwV 4 hts gX4_bear_X4_tensionOf rfl rfl rfl (by decide +kernel) ⟨Nat.le_of_ble_eq_true rfl, Nat.le_of_ble_eq_true rfl⟩) (PC.preV hE (va_recv hE.1 hP (ci := 4) (q0 := 0) rfl rfl) (hP.sub [0] rfl)) rfl rfl hl.1 rfl (lv_room (Nat.le_of_ble_eq_true rfl)) dX4_bear_22 ⟨Nat.zero_le _, Nat.zero_le _⟩) rfl ?_
    refine tI (y := fTen f i) (rfl) ?_
    refine lv_istore (lv' := [(7, .int (fTen f i)), (6, .int (nI i)), (5, .int acc), (0, .ref a), (1, .int (f (3 + nn f 50 % 24))), (2, .int (fLw f 0 + fLw f 1)), (3, .int (fLst f)), (4, .int (f 2))]) hx hb dX4_bear_25 hl (by decide) rfl (fun ls hl => ?_)
    refine lv_aload_n hx hb dX4_bear_27 rfl (lv_at hl 3 rfl) ?_
    refine va_get (D := G.1) (ci := 4) (v := .ref w) (C := RX4) (T := TX4) (N := 4) hx hb hts w_0 hown hE.1 hP 0 rfl rfl 0 (by decide) w_7 (fun _ h9 => h9) rfl dX4_bear_28 ?_
    refine lv_iload hx hb dX4_bear_31 (lv_at hl 1 rfl) ?_
    refine pcall (st1 := [.int ((fun j => crW f i (27 + j)) i)]) (va_runSN (As := [.ref w, .int (nI i)]) (rest := []) ⟨hx, hb, hml, hown, hts⟩ (c_X5_at l G w 20 (fun j => crW f i (27 + j)) i (by omega) (by decide)) ⟨va_cnB 2 hts gX4_bear_X5_at_n29 rfl rfl rfl (hE.2 (RX4, 29, yX5_at) (by decide +kernel)) (hts (.initialized RX5) (by decide +kernel)) (by decide +kernel) ⟨Nat.le_of_ble_eq_true rfl, Nat.le_of_ble_eq_true rfl⟩, w_8, trivial⟩ (PC.preS hE (hP.sub [1] rfl)) rfl rfl hl.1 rfl (lv_room (Nat.le_of_ble_eq_true rfl)) dX4_bear_33 ⟨Nat.zero_le _, Nat.zero_le _⟩) rfl ?_
    refine tI (y := f (27 + i)) (crW_o (by omega)) ?_
    refine lv_iload hx hb dX4_bear_36 (lv_at hl 0 rfl) ?_
    refine lv_iconst (v := nI 1) hx hb dX4_bear_38 (by decide +kernel) ?_
    refine lv_iload hx hb dX4_bear_39 (lv_at hl 7 rfl) ?_
    refine va_mmax hx hb (hml.trans hl.1.symm) hown w_9 w_10 w_5 w_11 (by decide) (Nat.le_of_ble_eq_true rfl) (Nat.zero_le _) (Nat.zero_le _) dX4_bear_41 ?_
    refine tI (y := f 2) (by rw [h2]; exact max_b (by omega) (by omega)) ?_
    refine lv_idiv hx hb dX4_bear_44 (by rw [h2]; exact nI_nz (by omega) (by omega)) ?_
    refine lv_iadd hx hb dX4_bear_45 ?_
    refine lv_istore (lv' := [(8, .int ((f (27 + i)) + ((fTen f i) / (f 2)))), (7, .int (fTen f i)), (6, .int (nI i)), (5, .int acc), (0, .ref a), (1, .int (f (3 + nn f 50 % 24))), (2, .int (fLw f 0 + fLw f 1)), (3, .int (fLst f)), (4, .int (f 2))]) hx hb dX4_bear_46 hl (by decide) rfl (fun ls hl => ?_)
    refine lv_aload_n hx hb dX4_bear_48 rfl (lv_at hl 4 rfl) ?_
    refine va_get (D := G.1) (ci := 4) (v := .ref w) (C := RX4) (T := TX4) (N := 4) hx hb hts w_0 hown hE.1 hP 0 rfl rfl 0 (by decide) w_7 (fun _ h9 => h9) rfl dX4_bear_49 ?_
    refine lv_iload hx hb dX4_bear_52 (lv_at hl 2 rfl) ?_
    refine lv_sipush (v := nI 1000) hx hb dX4_bear_54 (by decide +kernel) ?_
    refine lv_iload hx hb dX4_bear_57 (lv_at hl 0 rfl) ?_
    refine va_mmin hx hb (hml.trans hl.1.symm) hown w_3 w_4 w_5 w_6 (by decide) (Nat.le_of_ble_eq_true rfl) (Nat.zero_le _) (Nat.zero_le _) dX4_bear_59 ?_
    refine tI (y := cap (f (27 + i) + fTen f i / f 2)) (cap_min) ?_
    have hPc := hP.sub (ws' := [(w, .inl (G.2.1, 20, .inl (fun j => crW f i (27 + j))))]) [1] rfl
    have hDc := hD.sub (ws' := [(w, .inl (G.2.1, 20, .inl (fun j => crW f i (27 + j))))]) [1] (by decide) rfl
    refine mcall (st1 := []) (va_runSN (As := [.ref w, .int (nI i), .int (cap (f (27 + i) + fTen f i / f 2))]) (rest := []) ⟨hx, hb, hml, hown, hts⟩ (c_X5_put l G w 20 (fun j => crW f i (27 + j)) i (cap (f (27 + i) + fTen f i / f 2)) (by omega) (by decide)) ⟨va_cnB 3 hts gX4_bear_X5_put_n49 rfl rfl rfl (hE.2 (RX4, 49, yX5_put) (by decide +kernel)) (hts (.initialized RX5) (by decide +kernel)) (by decide +kernel) ⟨Nat.le_of_ble_eq_true rfl, Nat.le_of_ble_eq_true rfl⟩, w_12, trivial⟩ (PC.preS hE ⟨hPc, hDc.weaken (fun _ _ _ _ => trivial)⟩) rfl rfl hl.1 rfl (lv_room (Nat.le_of_ble_eq_true rfl)) dX4_bear_62 ⟨Nat.zero_le _, Nat.zero_le _⟩) hS (fun q _ h => inW_D hDc q h) (fun q h => inW_D hDc q h) rfl (fun H1 locs1 hB hz1 hk1 hS => ?_)
    obtain ⟨hP1, hD1⟩ := hB
    obtain ⟨hP, hD⟩ := jnW (wr := [(a, .inr (4, [.ref w, .int (f 47), .int (f 48), .int (f 49)]))]) (w1 := [(w, .inl (G.2.1, 20, .inl (upd (fun j => crW f i (27 + j)) i (cap (f (27 + i) + fTen f i / f 2)))))]) hP hD [1] [0] rfl rfl (by decide) (by decide) hk1 hP1 hD1
    generalize H1 = H at hP hS ⊢
    have hP : va_P G.1 vwCl [(a, .inr (4, [.ref w, .int (f 47), .int (f 48), .int (f 49)])), (w, .inl (G.2.1, 20, .inl (upd (fun j => crW f i (27 + j)) i (cap (f (27 + i) + fTen f i / f 2)))))] H := hP
    have hD : va_D A [(a, .inr (4, [.ref w, .int (f 47), .int (f 48), .int (f 49)])), (w, .inl (G.2.1, 20, .inl (upd (fun j => crW f i (27 + j)) i (cap (f (27 + i) + fTen f i / f 2)))))] := hD
    refine lv_iload hx hb dX4_bear_65 (lv_at hl 3 rfl) ?_
    refine lv_iload hx hb dX4_bear_67 (lv_at hl 1 rfl) ?_
    refine lv_iadd hx hb dX4_bear_69 ?_
    refine lv_istore (lv' := [(5, .int (acc + (fTen f i))), (8, .int ((f (27 + i)) + ((fTen f i) / (f 2)))), (7, .int (fTen f i)), (6, .int (nI i)), (0, .ref a), (1, .int (f (3 + nn f 50 % 24))), (2, .int (fLw f 0 + fLw f 1)), (3, .int (fLst f)), (4, .int (f 2))]) hx hb dX4_bear_70 hl (by decide) rfl (fun ls hl => ?_)
    refine lv_iinc (v := nI (i + 1)) (lv' := [(6, .int (nI (i + 1))), (5, .int (acc + (fTen f i))), (8, .int ((f (27 + i)) + ((fTen f i) / (f 2)))), (7, .int (fTen f i)), (0, .ref a), (1, .int (f (3 + nn f 50 % 24))), (2, .int (fLw f 0 + fLw f 1)), (3, .int (fLst f)), (4, .int (f 2))]) hx hb dX4_bear_72 hl (k := 3) rfl (nI_inc1 _) (by decide) rfl (fun ls hl => ?_)
    refine lv_goto (tgt := 9) hx hb dX4_bear_75 (by decide) ?_
    exact ih9 ((i + 1), (acc + (fTen f i))) _ _ _ ⟨by omega, by rw [ha]; exact togA⟩ (by (try dsimp only); rw [crWj_s] at hP hD; exact ⟨hP, hD, hS⟩) (lv_sub hl [0, 1, 4, 5, 6, 7, 8] rfl) (by (try dsimp only); omega)
set_option maxHeartbeats 4000000 in
set_option maxRecDepth 100000 in
theorem c_X4_renew (l : Launch) (G : eG) (a w : Nat) (f : Nat → Int32) (n : Nat) (hn5 : n ≤ 5) : Met l yX4_renew wsX4_renew ({ frames := 1, cells := 0, slots := 0, locals := 22 }) (PC [.ref a, .int (nI n)] G (fun H => va_P G.1 vwCl [(a, .inr (4, [.ref w, .int (f 47), .int (f 48), .int (f 49)])), (w, .inl (G.2.1, 20, .inl (fun j => f (27 + j))))] H ∧ va_D (fun _ => True) [(a, .inr (4, [.ref w, .int (f 47), .int (f 48), .int (f 49)])), (w, .inl (G.2.1, 20, .inl (fun j => f (27 + j))))])) (MV (none) (fun H => va_P G.1 vwCl [(a, .inr (4, [.ref w, .int ((fDrw f n) 47), .int ((fDrw f n) 48), .int ((fDrw f n) 49)])), (w, .inl (G.2.1, 20, .inl (fun j => (fDrw f n) (27 + j))))] H ∧ va_D (inW [(a, .inr (4, [.ref w, .int (f 47), .int (f 48), .int (f 49)])), (w, .inl (G.2.1, 20, .inl (fun j => f (27 + j))))]) [(a, .inr (4, [.ref w, .int ((fDrw f n) 47), .int ((fDrw f n) 48), .int ((fDrw f n) 49)])), (w, .inl (G.2.1, 20, .inl (fun j => (fDrw f n) (27 + j))))]) (inW [(a, .inr (4, [.ref w, .int (f 47), .int (f 48), .int (f 49)])), (w, .inl (G.2.1, 20, .inl (fun j => f (27 + j))))])) 0 0 (inW [(a, .inr (4, [.ref w, .int (f 47), .int (f 48), .int (f 49)])), (w, .inl (G.2.1, 20, .inl (fun j => f (27 + j))))]) := by
  refine ofB (cc := cX4_renew) (maxL := 3) (ret := none) (by decide) rfl (Nat.le_of_ble_eq_true rfl) ?_
  intro p e s m below meth c hx hb hr hlocks hml hown hin hts hE hI ls hl
  replace hown : s.vm.findClass RX4 = some m.cls := hown
  have hl : lv_has ls 3 [(0, .ref a), (1, .int (nI n))] := hl
  obtain ⟨hP, hD0⟩ := hI
  have hD : va_D (inW [(a, .inr (4, [.ref w, .int (f 47), .int (f 48), .int (f 49)])), (w, .inl (G.2.1, 20, .inl (fun j => f (27 + j))))]) [(a, .inr (4, [.ref w, .int (f 47), .int (f 48), .int (f 49)])), (w, .inl (G.2.1, 20, .inl (fun j => f (27 + j))))] := D_self hD0
  obtain ⟨A, hAe⟩ : ∃ A, A = inW [(a, .inr (4, [.ref w, .int (f 47), .int (f 48), .int (f 49)])), (w, .inl (G.2.1, 20, .inl (fun j => f (27 + j))))] := ⟨_, rfl⟩
  rw [← hAe] at hD ⊢
  have hS : va_S A s.heap s.heap [] := va_S.rf
  obtain ⟨H, hHe⟩ : ∃ H, H = s.heap := ⟨_, rfl⟩
  obtain ⟨locs, hle⟩ : ∃ q : List Loc, q = [] := ⟨_, rfl⟩
  rw [← hle] at hS ⊢
  have hP : va_P G.1 vwCl [(a, .inr (4, [.ref w, .int (f 47), .int (f 48), .int (f 49)])), (w, .inl (G.2.1, 20, .inl (fun j => f (27 + j))))] H := by rw [hHe]; exact hP
  replace hS : va_S A s.heap H locs := by rw [hHe]; exact hS
  refine tH hHe ?_
  have w_0 : ∀ w ∈ u_ws RX4 TX4 4, w ∈ wsX4_renew := by decide +kernel
  have w_1 := hts (.fieldLink RX4 22 "CableFerry$Wire" "drum" "I") (by decide +kernel)
  have w_2 := hts (.fieldLink RX4 15 "CableFerry$Wire" "slack" "I") (by decide +kernel)
  have w_3 := hts (.fieldLink RX4 19 "CableFerry$Wire" "stretch" "I") (by decide +kernel)
  have w_4 := hts (.fieldLink RX4 9 "CableFerry$Wire" "wears" "[I") (by decide +kernel)
  have w_5 := hts (.static yX5_put) (by decide +kernel)
  have w_6 := hts (.static yX5_at) (by decide +kernel)
  skip
  refine lv_iconst (v := nI 0) hx hb dX4_renew_0 (by decide +kernel) ?_
  refine lv_istore_n (lv' := [(2, .int (nI 0)), (0, .ref a), (1, .int (nI n))]) hx hb dX4_renew_1 rfl hl (by decide) rfl (fun ls hl => ?_)
  refine loopH (σ := Nat) (n := 3) (pc1 := 2) (fun i => 20 - i) (fun i => i ≤ 20) (fun i => fun (H : Heap) (locs : List Loc) => va_P G.1 vwCl [(a, .inr (4, [.ref w, .int (f 47), .int (f 48), .int (f 49)])), (w, .inl (G.2.1, 20, .inl (fun j => drW f n i (27 + j))))] H ∧ va_D A [(a, .inr (4, [.ref w, .int (f 47), .int (f 48), .int (f 49)])), (w, .inl (G.2.1, 20, .inl (fun j => drW f n i (27 + j))))] ∧ va_S A s.heap H locs) (fun i => [(2, .int (nI i)), (0, .ref a), (1, .int (nI n))]) (fun i => []) ?_ (0) H _ _ (Nat.zero_le _) (by (try dsimp only); rw [drWj_0]; exact ⟨hP, hD, hS⟩) (lv_sub hl [0, 1, 2] rfl)
  rintro i H locs ls hI ⟨hP, hD, hS⟩ hl ih2
  have hl : lv_has ls 3 [(2, .int (nI i)), (0, .ref a), (1, .int (nI n))] := hl
  replace hI : i ≤ 20 := hI
  have hP : va_P G.1 vwCl [(a, .inr (4, [.ref w, .int (f 47), .int (f 48), .int (f 49)])), (w, .inl (G.2.1, 20, .inl (fun j => drW f n i (27 + j))))] H := hP
  have hD : va_D A [(a, .inr (4, [.ref w, .int (f 47), .int (f 48), .int (f 49)])), (w, .inl (G.2.1, 20, .inl (fun j => drW f n i (27 + j))))] := hD
  refine tS (st' := []) rfl ?_
  refine lv_iload_n hx hb dX4_renew_2 rfl (lv_at hl 0 rfl) ?_
  refine lv_bipush (v := nI 20) hx hb dX4_renew_3 (by decide +kernel) ?_
  refine icmp_geN (tgt := 44) hx hb (by omega) (by omega) dX4_renew_5 (by decide) (fun c5 => ?_) (fun c5 => ?_)
  · skip
    have hj : i = 20 := by omega
    rw [hj] at hP hD
    have hP : va_P G.1 vwCl [(a, .inr (4, [.ref w, .int (f 47), .int (f 48), .int (f 49)])), (w, .inl (G.2.1, 20, .inl (fun j => drW f n 20 (27 + j))))] H := hP
    have hD : va_D A [(a, .inr (4, [.ref w, .int (f 47), .int (f 48), .int (f 49)])), (w, .inl (G.2.1, 20, .inl (fun j => drW f n 20 (27 + j))))] := hD
    replace hP := P_ext (ws' := [(a, .inr (4, [.ref w, .int (f 47), .int (f 48), .int (f 49)])), (w, .inl (G.2.1, 20, .inl (fun j => (fDrw f n) (27 + j))))]) (g := fun j => (fDrw f n) (27 + j)) 1 rfl rfl drw_w hP
    replace hD := va_D.set (p := 1) (e := .inl (G.2.1, 20, .inl (fun j => (fDrw f n) (27 + j)))) hD rfl
    have hP : va_P G.1 vwCl [(a, .inr (4, [.ref w, .int (f 47), .int (f 48), .int (f 49)])), (w, .inl (G.2.1, 20, .inl (fun j => (fDrw f n) (27 + j))))] H := hP
    have hD : va_D A [(a, .inr (4, [.ref w, .int (f 47), .int (f 48), .int (f 49)])), (w, .inl (G.2.1, 20, .inl (fun j => (fDrw f n) (27 + j))))] := hD
    refine lv_aload_n hx hb dX4_renew_44 rfl (lv_at hl 1 rfl) ?_
    refine lv_dup hx hb dX4_renew_45 rfl ?_
    refine va_get (D := G.1) (ci := 4) (v := .int (f 49)) (C := RX4) (T := TX4) (N := 4) hx hb hts w_0 hown hE.1 hP 0 rfl rfl 3 (by decide) w_1 (fun _ h9 => h9) rfl dX4_renew_46 ?_
    refine lv_iload_n hx hb dX4_renew_49 rfl (lv_at hl 2 rfl) ?_
    refine lv_isub hx hb dX4_renew_50 ?_
    refine va_put (D := G.1) (ci := 4) (v := .int ((f 49) - (nI n))) (ty := .int) (C := RX4) (T := TX4) (N := 4) hx hb hts w_0 tyX4 tyX4_ok nmX4 hown hE.1 hP hD hS 0 rfl rfl 3 (by decide) w_1 (fun _ h9 => h9) rfl (by decide +kernel) rfl rfl (Nat.le_of_ble_eq_true rfl) dX4_renew_51 (fun H locs hP hD hS => ?_)
    have hP : va_P G.1 vwCl [(a, .inr (4, [.ref w, .int (f 47), .int (f 48), .int ((f 49) - (nI n))])), (w, .inl (G.2.1, 20, .inl (fun j => (fDrw f n) (27 + j))))] H := hP
    have hD : va_D A [(a, .inr (4, [.ref w, .int (f 47), .int (f 48), .int ((f 49) - (nI n))])), (w, .inl (G.2.1, 20, .inl (fun j => (fDrw f n) (27 + j))))] := hD
    refine lv_aload_n hx hb dX4_renew_54 rfl (lv_at hl 1 rfl) ?_
    refine lv_iconst (v := nI 0) hx hb dX4_renew_55 (by decide +kernel) ?_
    refine va_put (D := G.1) (ci := 4) (v := .int (nI 0)) (ty := .int) (C := RX4) (T := TX4) (N := 4) hx hb hts w_0 tyX4 tyX4_ok nmX4 hown hE.1 hP hD hS 0 rfl rfl 1 (by decide) w_2 (fun _ h9 => h9) rfl (by decide +kernel) rfl rfl (Nat.le_of_ble_eq_true rfl) dX4_renew_56 (fun H locs hP hD hS => ?_)
    have hP : va_P G.1 vwCl [(a, .inr (4, [.ref w, .int (nI 0), .int (f 48), .int ((f 49) - (nI n))])), (w, .inl (G.2.1, 20, .inl (fun j => (fDrw f n) (27 + j))))] H := hP
    have hD : va_D A [(a, .inr (4, [.ref w, .int (nI 0), .int (f 48), .int ((f 49) - (nI n))])), (w, .inl (G.2.1, 20, .inl (fun j => (fDrw f n) (27 + j))))] := hD
    refine lv_aload_n hx hb dX4_renew_59 rfl (lv_at hl 1 rfl) ?_
    refine lv_iconst (v := nI 0) hx hb dX4_renew_60 (by decide +kernel) ?_
    refine va_put (D := G.1) (ci := 4) (v := .int (nI 0)) (ty := .int) (C := RX4) (T := TX4) (N := 4) hx hb hts w_0 tyX4 tyX4_ok nmX4 hown hE.1 hP hD hS 0 rfl rfl 2 (by decide) w_3 (fun _ h9 => h9) rfl (by decide +kernel) rfl rfl (Nat.le_of_ble_eq_true rfl) dX4_renew_61 (fun H locs hP hD hS => ?_)
    have hP : va_P G.1 vwCl [(a, .inr (4, [.ref w, .int (nI 0), .int (nI 0), .int ((f 49) - (nI n))])), (w, .inl (G.2.1, 20, .inl (fun j => (fDrw f n) (27 + j))))] H := hP
    have hD : va_D A [(a, .inr (4, [.ref w, .int (nI 0), .int (nI 0), .int ((f 49) - (nI n))])), (w, .inl (G.2.1, 20, .inl (fun j => (fDrw f n) (27 + j))))] := hD
    exact W.vret hx hb hr (fun t ht hW => ⟨rfl, by rw [ht]; exact (by rw [drw_47, drw_48, drw_49]; exact ⟨hP, hD⟩), hS.F ht⟩) hS.2.2 dX4_renew_64
  · skip
    refine lv_aload_n hx hb dX4_renew_8 rfl (lv_at hl 1 rfl) ?_
    refine va_get (D := G.1) (ci := 4) (v := .ref w) (C := RX4) (T := TX4) (N := 4) hx hb hts w_0 hown hE.1 hP 0 rfl rfl 0 (by decide) w_4 (fun _ h9 => h9) rfl dX4_renew_9 ?_
    refine lv_iload_n hx hb dX4_renew_12 rfl (lv_at hl 0 rfl) ?_
    refine lv_iload_n hx hb dX4_renew_13 rfl (lv_at hl 0 rfl) ?_
    refine lv_iload_n hx hb dX4_renew_14 rfl (lv_at hl 2 rfl) ?_
    refine iaddN hx hb dX4_renew_15 ?_
    refine lv_bipush (v := nI 20) hx hb dX4_renew_16 (by decide +kernel) ?_
    refine cutL (σ := Int32) (n := 3) (pc1 := 35) (fun r => r = if 27 + i + n < 47 then f (27 + i + n) else nI 0) (fun r => [(2, .int (nI i)), (0, .ref a), (1, .int (nI n))]) (fun r => [.int r, .int (nI i), .ref w]) ?_ (fun J35 => ?_)
    · rintro r ls hI hl
      have hl : lv_has ls 3 [(2, .int (nI i)), (0, .ref a), (1, .int (nI n))] := hl
      replace hI : r = if 27 + i + n < 47 then f (27 + i + n) else nI 0 := hI
      have hm := hI
      refine tS (st' := [.int r, .int (nI i), .ref w]) rfl ?_
      have hPc := hP.sub (ws' := [(w, .inl (G.2.1, 20, .inl (fun j => drW f n i (27 + j))))]) [1] rfl
      have hDc := hD.sub (ws' := [(w, .inl (G.2.1, 20, .inl (fun j => drW f n i (27 + j))))]) [1] (by decide) rfl
      refine mcall (st1 := []) (va_runSN (As := [.ref w, .int (nI i), .int r]) (rest := []) ⟨hx, hb, hml, hown, hts⟩ (c_X5_put l G w 20 (fun j => drW f n i (27 + j)) i r (by omega) (by decide)) ⟨va_cnB 3 hts gX4_renew_X5_put_n49 rfl rfl rfl (hE.2 (RX4, 49, yX5_put) (by decide +kernel)) (hts (.initialized RX5) (by decide +kernel)) (by decide +kernel) ⟨Nat.le_of_ble_eq_true rfl, Nat.le_of_ble_eq_true rfl⟩, w_5, trivial⟩ (PC.preS hE ⟨hPc, hDc.weaken (fun _ _ _ _ => trivial)⟩) rfl rfl hl.1 rfl (lv_room (Nat.le_of_ble_eq_true rfl)) dX4_renew_35 ⟨Nat.zero_le _, Nat.zero_le _⟩) hS (fun q _ h => inW_D hDc q h) (fun q h => inW_D hDc q h) rfl (fun H1 locs1 hB hz1 hk1 hS => ?_)
      obtain ⟨hP1, hD1⟩ := hB
      obtain ⟨hP, hD⟩ := jnW (wr := [(a, .inr (4, [.ref w, .int (f 47), .int (f 48), .int (f 49)]))]) (w1 := [(w, .inl (G.2.1, 20, .inl (upd (fun j => drW f n i (27 + j)) i r)))]) hP hD [1] [0] rfl rfl (by decide) (by decide) hk1 hP1 hD1
      generalize H1 = H at hP hS ⊢
      have hP : va_P G.1 vwCl [(a, .inr (4, [.ref w, .int (f 47), .int (f 48), .int (f 49)])), (w, .inl (G.2.1, 20, .inl (upd (fun j => drW f n i (27 + j)) i r)))] H := hP
      have hD : va_D A [(a, .inr (4, [.ref w, .int (f 47), .int (f 48), .int (f 49)])), (w, .inl (G.2.1, 20, .inl (upd (fun j => drW f n i (27 + j)) i r)))] := hD
      refine lv_iinc (v := nI (i + 1)) (lv' := [(2, .int (nI (i + 1))), (0, .ref a), (1, .int (nI n))]) hx hb dX4_renew_38 hl (k := 0) rfl (nI_inc1 _) (by decide) rfl (fun ls hl => ?_)
      refine lv_goto (tgt := 2) hx hb dX4_renew_41 (by decide) ?_
      exact ih2 (i + 1) _ _ _ (by omega) (by (try dsimp only); rw [drWj_s hm] at hP hD; exact ⟨hP, hD, hS⟩) (lv_sub hl [0, 1, 2] rfl) (by (try dsimp only); omega)
    · skip
      refine icmp_geN (tgt := 34) hx hb (by omega) (by omega) dX4_renew_18 (by decide) (fun c18 => ?_) (fun c18 => ?_)
      · skip
        refine lv_iconst (v := nI 0) hx hb dX4_renew_34 (by decide +kernel) ?_
        exact J35 (nI 0) _ (by rw [if_neg (by omega)]) (lv_sub hl [0, 1, 2] rfl)
      · skip
        refine lv_aload_n hx hb dX4_renew_21 rfl (lv_at hl 1 rfl) ?_
        refine va_get (D := G.1) (ci := 4) (v := .ref w) (C := RX4) (T := TX4) (N := 4) hx hb hts w_0 hown hE.1 hP 0 rfl rfl 0 (by decide) w_4 (fun _ h9 => h9) rfl dX4_renew_22 ?_
        refine lv_iload_n hx hb dX4_renew_25 rfl (lv_at hl 0 rfl) ?_
        refine lv_iload_n hx hb dX4_renew_26 rfl (lv_at hl 2 rfl) ?_
        refine iaddN hx hb dX4_renew_27 ?_
        refine pcall (st1 := [.int ((fun j => drW f n i (27 + j)) (i + n)), .int (nI i), .ref w]) (va_runSN (As := [.ref w, .int (nI (i + n))]) (rest := [.int (nI i), .ref w]) ⟨hx, hb, hml, hown, hts⟩ (c_X5_at l G w 20 (fun j => drW f n i (27 + j)) (i + n) (by omega) (by decide)) ⟨va_cnB 2 hts gX4_renew_X5_at_n29 rfl rfl rfl (hE.2 (RX4, 29, yX5_at) (by decide +kernel)) (hts (.initialized RX5) (by decide +kernel)) (by decide +kernel) ⟨Nat.le_of_ble_eq_true rfl, Nat.le_of_ble_eq_true rfl⟩, w_6, trivial⟩ (PC.preS hE (hP.sub [1] rfl)) rfl rfl hl.1 rfl (lv_room (Nat.le_of_ble_eq_true rfl)) dX4_renew_28 ⟨Nat.zero_le _, Nat.zero_le _⟩) rfl ?_
        refine tI (y := f (27 + i + n)) (by show drW f n i (27 + (i + n)) = _; rw [drW_o (by omega)]; congr 1; omega) ?_
        refine lv_goto (tgt := 35) hx hb dX4_renew_31 (by decide) ?_
        exact J35 (f (27 + i + n)) _ (by rw [if_pos (by omega)]) (lv_sub hl [0, 1, 2] rfl)
set_option maxHeartbeats 4000000 in
set_option maxRecDepth 100000 in
theorem c_X4_copyFrom (l : Launch) (G : eG) (a w a9 w9 : Nat) (f f9 : Nat → Int32) : Met l yX4_copyFrom wsX4_copyFrom ({ frames := 2, cells := 0, slots := 0, locals := 61 }) (PC [.ref a, .ref a9] G (fun H => va_P G.1 vwCl [(a, .inr (4, [.ref w, .int (f 47), .int (f 48), .int (f 49)])), (w, .inl (G.2.1, 20, .inl (fun j => f (27 + j)))), (a9, .inr (4, [.ref w9, .int (f9 47), .int (f9 48), .int (f9 49)])), (w9, .inl (G.2.1, 20, .inl (fun j => f9 (27 + j))))] H ∧ va_D (fun _ => True) [(a, .inr (4, [.ref w, .int (f 47), .int (f 48), .int (f 49)])), (w, .inl (G.2.1, 20, .inl (fun j => f (27 + j)))), (a9, .inr (4, [.ref w9, .int (f9 47), .int (f9 48), .int (f9 49)])), (w9, .inl (G.2.1, 20, .inl (fun j => f9 (27 + j))))])) (MV (none) (fun H => va_P G.1 vwCl [(a, .inr (4, [.ref w, .int (f9 47), .int (f9 48), .int (f9 49)])), (w, .inl (G.2.1, 20, .inl (fun j => f9 (27 + j)))), (a9, .inr (4, [.ref w9, .int (f9 47), .int (f9 48), .int (f9 49)])), (w9, .inl (G.2.1, 20, .inl (fun j => f9 (27 + j))))] H ∧ va_D (inW [(a, .inr (4, [.ref w, .int (f 47), .int (f 48), .int (f 49)])), (w, .inl (G.2.1, 20, .inl (fun j => f (27 + j)))), (a9, .inr (4, [.ref w9, .int (f9 47), .int (f9 48), .int (f9 49)])), (w9, .inl (G.2.1, 20, .inl (fun j => f9 (27 + j))))]) [(a, .inr (4, [.ref w, .int (f9 47), .int (f9 48), .int (f9 49)])), (w, .inl (G.2.1, 20, .inl (fun j => f9 (27 + j)))), (a9, .inr (4, [.ref w9, .int (f9 47), .int (f9 48), .int (f9 49)])), (w9, .inl (G.2.1, 20, .inl (fun j => f9 (27 + j))))]) (inW [(a, .inr (4, [.ref w, .int (f 47), .int (f 48), .int (f 49)])), (w, .inl (G.2.1, 20, .inl (fun j => f (27 + j)))), (a9, .inr (4, [.ref w9, .int (f9 47), .int (f9 48), .int (f9 49)])), (w9, .inl (G.2.1, 20, .inl (fun j => f9 (27 + j))))])) 0 0 (inW [(a, .inr (4, [.ref w, .int (f 47), .int (f 48), .int (f 49)])), (w, .inl (G.2.1, 20, .inl (fun j => f (27 + j)))), (a9, .inr (4, [.ref w9, .int (f9 47), .int (f9 48), .int (f9 49)])), (w9, .inl (G.2.1, 20, .inl (fun j => f9 (27 + j))))]) := by
  refine ofB (cc := cX4_copyFrom) (maxL := 2) (ret := none) (by decide) rfl (Nat.le_of_ble_eq_true rfl) ?_
  intro p e s m below meth c hx hb hr hlocks hml hown hin hts hE hI ls hl
  replace hown : s.vm.findClass RX4 = some m.cls := hown
  have hl : lv_has ls 2 [(0, .ref a), (1, .ref a9)] := hl
  obtain ⟨hP, hD0⟩ := hI
  have hD : va_D (inW [(a, .inr (4, [.ref w, .int (f 47), .int (f 48), .int (f 49)])), (w, .inl (G.2.1, 20, .inl (fun j => f (27 + j)))), (a9, .inr (4, [.ref w9, .int (f9 47), .int (f9 48), .int (f9 49)])), (w9, .inl (G.2.1, 20, .inl (fun j => f9 (27 + j))))]) [(a, .inr (4, [.ref w, .int (f 47), .int (f 48), .int (f 49)])), (w, .inl (G.2.1, 20, .inl (fun j => f (27 + j)))), (a9, .inr (4, [.ref w9, .int (f9 47), .int (f9 48), .int (f9 49)])), (w9, .inl (G.2.1, 20, .inl (fun j => f9 (27 + j))))] := D_self hD0
  obtain ⟨A, hAe⟩ : ∃ A, A = inW [(a, .inr (4, [.ref w, .int (f 47), .int (f 48), .int (f 49)])), (w, .inl (G.2.1, 20, .inl (fun j => f (27 + j)))), (a9, .inr (4, [.ref w9, .int (f9 47), .int (f9 48), .int (f9 49)])), (w9, .inl (G.2.1, 20, .inl (fun j => f9 (27 + j))))] := ⟨_, rfl⟩
  rw [← hAe] at hD ⊢
  have hS : va_S A s.heap s.heap [] := va_S.rf
  obtain ⟨H, hHe⟩ : ∃ H, H = s.heap := ⟨_, rfl⟩
  obtain ⟨locs, hle⟩ : ∃ q : List Loc, q = [] := ⟨_, rfl⟩
  rw [← hle] at hS ⊢
  have hP : va_P G.1 vwCl [(a, .inr (4, [.ref w, .int (f 47), .int (f 48), .int (f 49)])), (w, .inl (G.2.1, 20, .inl (fun j => f (27 + j)))), (a9, .inr (4, [.ref w9, .int (f9 47), .int (f9 48), .int (f9 49)])), (w9, .inl (G.2.1, 20, .inl (fun j => f9 (27 + j))))] H := by rw [hHe]; exact hP
  replace hS : va_S A s.heap H locs := by rw [hHe]; exact hS
  refine tH hHe ?_
  have w_0 : ∀ w ∈ u_ws RX4 TX4 4, w ∈ wsX4_copyFrom := by decide +kernel
  have w_1 := hts (.fieldLink RX4 9 "CableFerry$Wire" "wears" "[I") (by decide +kernel)
  have w_2 := hts (.static yX5_copyRow) (by decide +kernel)
  have w_3 := hts (.fieldLink RX4 15 "CableFerry$Wire" "slack" "I") (by decide +kernel)
  have w_4 := hts (.fieldLink RX4 19 "CableFerry$Wire" "stretch" "I") (by decide +kernel)
  have w_5 := hts (.fieldLink RX4 22 "CableFerry$Wire" "drum" "I") (by decide +kernel)
  skip
  refine lv_aload_n hx hb dX4_copyFrom_0 rfl (lv_at hl 1 rfl) ?_
  refine va_get (D := G.1) (ci := 4) (v := .ref w9) (C := RX4) (T := TX4) (N := 4) hx hb hts w_0 hown hE.1 hP 2 rfl rfl 0 (by decide) w_1 (fun _ h9 => h9) rfl dX4_copyFrom_1 ?_
  refine lv_aload_n hx hb dX4_copyFrom_4 rfl (lv_at hl 0 rfl) ?_
  refine va_get (D := G.1) (ci := 4) (v := .ref w) (C := RX4) (T := TX4) (N := 4) hx hb hts w_0 hown hE.1 hP 0 rfl rfl 0 (by decide) w_1 (fun _ h9 => h9) rfl dX4_copyFrom_5 ?_
  have hPc := hP.sub (ws' := [(w9, .inl (G.2.1, 20, .inl (fun j => f9 (27 + j)))), (w, .inl (G.2.1, 20, .inl (fun j => f (27 + j))))]) [3, 1] rfl
  have hDc := hD.sub (ws' := [(w9, .inl (G.2.1, 20, .inl (fun j => f9 (27 + j)))), (w, .inl (G.2.1, 20, .inl (fun j => f (27 + j))))]) [3, 1] (by decide) rfl
  refine mcall (st1 := []) (va_runSN (As := [.ref w9, .ref w]) (rest := []) ⟨hx, hb, hml, hown, hts⟩ (c_X5_copyRow l G w9 w 20 (fun j => f9 (27 + j)) (fun j => f (27 + j)) (by decide)) ⟨va_cnB 2 hts gX4_copyFrom_X5_copyRow_n25 rfl rfl rfl (hE.2 (RX4, 25, yX5_copyRow) (by decide +kernel)) (hts (.initialized RX5) (by decide +kernel)) (by decide +kernel) ⟨Nat.le_of_ble_eq_true rfl, Nat.le_of_ble_eq_true rfl⟩, w_2, trivial⟩ (PC.preS hE ⟨hPc, hDc.weaken (fun _ _ _ _ => trivial)⟩) rfl rfl hl.1 rfl (lv_room (Nat.le_of_ble_eq_true rfl)) dX4_copyFrom_8 ⟨Nat.zero_le _, Nat.zero_le _⟩) hS (fun q _ h => inW_D hDc q h) (fun q h => inW_D hDc q h) rfl (fun H1 locs1 hB hz1 hk1 hS => ?_)
  obtain ⟨hP1, hD1⟩ := hB
  obtain ⟨hP, hD⟩ := jnW (wr := [(a, .inr (4, [.ref w, .int (f 47), .int (f 48), .int (f 49)])), (a9, .inr (4, [.ref w9, .int (f9 47), .int (f9 48), .int (f9 49)]))]) (w1 := [(w9, .inl (G.2.1, 20, .inl (fun j => f9 (27 + j)))), (w, .inl (G.2.1, 20, .inl (fun j => f9 (27 + j))))]) hP hD [3, 1] [0, 2] rfl rfl (by decide) (by decide) hk1 hP1 hD1
  generalize H1 = H at hP hS ⊢
  replace hP := hP.sub (ws' := [(a, .inr (4, [.ref w, .int (f 47), .int (f 48), .int (f 49)])), (w, .inl (G.2.1, 20, .inl (fun j => f9 (27 + j)))), (a9, .inr (4, [.ref w9, .int (f9 47), .int (f9 48), .int (f9 49)])), (w9, .inl (G.2.1, 20, .inl (fun j => f9 (27 + j))))]) [0, 3, 1, 2] rfl
  replace hD := hD.sub (ws' := [(a, .inr (4, [.ref w, .int (f 47), .int (f 48), .int (f 49)])), (w, .inl (G.2.1, 20, .inl (fun j => f9 (27 + j)))), (a9, .inr (4, [.ref w9, .int (f9 47), .int (f9 48), .int (f9 49)])), (w9, .inl (G.2.1, 20, .inl (fun j => f9 (27 + j))))]) [0, 3, 1, 2] (by decide) rfl
  have hP : va_P G.1 vwCl [(a, .inr (4, [.ref w, .int (f 47), .int (f 48), .int (f 49)])), (w, .inl (G.2.1, 20, .inl (fun j => f9 (27 + j)))), (a9, .inr (4, [.ref w9, .int (f9 47), .int (f9 48), .int (f9 49)])), (w9, .inl (G.2.1, 20, .inl (fun j => f9 (27 + j))))] H := hP
  have hD : va_D A [(a, .inr (4, [.ref w, .int (f 47), .int (f 48), .int (f 49)])), (w, .inl (G.2.1, 20, .inl (fun j => f9 (27 + j)))), (a9, .inr (4, [.ref w9, .int (f9 47), .int (f9 48), .int (f9 49)])), (w9, .inl (G.2.1, 20, .inl (fun j => f9 (27 + j))))] := hD
  refine lv_aload_n hx hb dX4_copyFrom_11 rfl (lv_at hl 0 rfl) ?_
  refine lv_aload_n hx hb dX4_copyFrom_12 rfl (lv_at hl 1 rfl) ?_
  refine va_get (D := G.1) (ci := 4) (v := .int (f9 47)) (C := RX4) (T := TX4) (N := 4) hx hb hts w_0 hown hE.1 hP 2 rfl rfl 1 (by decide) w_3 (fun _ h9 => h9) rfl dX4_copyFrom_13 ?_
  refine va_put (D := G.1) (ci := 4) (v := .int (f9 47)) (ty := .int) (C := RX4) (T := TX4) (N := 4) hx hb hts w_0 tyX4 tyX4_ok nmX4 hown hE.1 hP hD hS 0 rfl rfl 1 (by decide) w_3 (fun _ h9 => h9) rfl (by decide +kernel) rfl rfl (Nat.le_of_ble_eq_true rfl) dX4_copyFrom_16 (fun H locs hP hD hS => ?_)
  have hP : va_P G.1 vwCl [(a, .inr (4, [.ref w, .int (f9 47), .int (f 48), .int (f 49)])), (w, .inl (G.2.1, 20, .inl (fun j => f9 (27 + j)))), (a9, .inr (4, [.ref w9, .int (f9 47), .int (f9 48), .int (f9 49)])), (w9, .inl (G.2.1, 20, .inl (fun j => f9 (27 + j))))] H := hP
  have hD : va_D A [(a, .inr (4, [.ref w, .int (f9 47), .int (f 48), .int (f 49)])), (w, .inl (G.2.1, 20, .inl (fun j => f9 (27 + j)))), (a9, .inr (4, [.ref w9, .int (f9 47), .int (f9 48), .int (f9 49)])), (w9, .inl (G.2.1, 20, .inl (fun j => f9 (27 + j))))] := hD
  refine lv_aload_n hx hb dX4_copyFrom_19 rfl (lv_at hl 0 rfl) ?_
  refine lv_aload_n hx hb dX4_copyFrom_20 rfl (lv_at hl 1 rfl) ?_
  refine va_get (D := G.1) (ci := 4) (v := .int (f9 48)) (C := RX4) (T := TX4) (N := 4) hx hb hts w_0 hown hE.1 hP 2 rfl rfl 2 (by decide) w_4 (fun _ h9 => h9) rfl dX4_copyFrom_21 ?_
  refine va_put (D := G.1) (ci := 4) (v := .int (f9 48)) (ty := .int) (C := RX4) (T := TX4) (N := 4) hx hb hts w_0 tyX4 tyX4_ok nmX4 hown hE.1 hP hD hS 0 rfl rfl 2 (by decide) w_4 (fun _ h9 => h9) rfl (by decide +kernel) rfl rfl (Nat.le_of_ble_eq_true rfl) dX4_copyFrom_24 (fun H locs hP hD hS => ?_)
  have hP : va_P G.1 vwCl [(a, .inr (4, [.ref w, .int (f9 47), .int (f9 48), .int (f 49)])), (w, .inl (G.2.1, 20, .inl (fun j => f9 (27 + j)))), (a9, .inr (4, [.ref w9, .int (f9 47), .int (f9 48), .int (f9 49)])), (w9, .inl (G.2.1, 20, .inl (fun j => f9 (27 + j))))] H := hP
  have hD : va_D A [(a, .inr (4, [.ref w, .int (f9 47), .int (f9 48), .int (f 49)])), (w, .inl (G.2.1, 20, .inl (fun j => f9 (27 + j)))), (a9, .inr (4, [.ref w9, .int (f9 47), .int (f9 48), .int (f9 49)])), (w9, .inl (G.2.1, 20, .inl (fun j => f9 (27 + j))))] := hD
  refine lv_aload_n hx hb dX4_copyFrom_27 rfl (lv_at hl 0 rfl) ?_
  refine lv_aload_n hx hb dX4_copyFrom_28 rfl (lv_at hl 1 rfl) ?_
  refine va_get (D := G.1) (ci := 4) (v := .int (f9 49)) (C := RX4) (T := TX4) (N := 4) hx hb hts w_0 hown hE.1 hP 2 rfl rfl 3 (by decide) w_5 (fun _ h9 => h9) rfl dX4_copyFrom_29 ?_
  refine va_put (D := G.1) (ci := 4) (v := .int (f9 49)) (ty := .int) (C := RX4) (T := TX4) (N := 4) hx hb hts w_0 tyX4 tyX4_ok nmX4 hown hE.1 hP hD hS 0 rfl rfl 3 (by decide) w_5 (fun _ h9 => h9) rfl (by decide +kernel) rfl rfl (Nat.le_of_ble_eq_true rfl) dX4_copyFrom_32 (fun H locs hP hD hS => ?_)
  have hP : va_P G.1 vwCl [(a, .inr (4, [.ref w, .int (f9 47), .int (f9 48), .int (f9 49)])), (w, .inl (G.2.1, 20, .inl (fun j => f9 (27 + j)))), (a9, .inr (4, [.ref w9, .int (f9 47), .int (f9 48), .int (f9 49)])), (w9, .inl (G.2.1, 20, .inl (fun j => f9 (27 + j))))] H := hP
  have hD : va_D A [(a, .inr (4, [.ref w, .int (f9 47), .int (f9 48), .int (f9 49)])), (w, .inl (G.2.1, 20, .inl (fun j => f9 (27 + j)))), (a9, .inr (4, [.ref w9, .int (f9 47), .int (f9 48), .int (f9 49)])), (w9, .inl (G.2.1, 20, .inl (fun j => f9 (27 + j))))] := hD
  exact W.vret hx hb hr (fun t ht hW => ⟨rfl, by rw [ht]; exact ⟨hP, hD⟩, hS.F ht⟩) hS.2.2 dX4_copyFrom_35

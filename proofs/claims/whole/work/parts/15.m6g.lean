set_option maxHeartbeats 4000000 in
set_option maxRecDepth 100000 in
theorem c_X6_sees (l : Launch) (G : eG) (ob a1 a2 a3 a4 a5 : Nat) (f th pa sn tx : Nat → Int32) (n len spot : Nat) (kp thr bad lt one two wh : Int32) (hash : Int64) (htx : Tx tx len) (hsp : spot ≤ len) (lo hi : Nat) (hlo : lo < 1000) (hhi : hi < 1000) : Met l yX6_sees wsX6_sees ({ frames := 1, cells := 0, slots := 0, locals := 22 }) (PC [.ref ob, .int (nI lo), .int (nI hi)] G (fun H => va_P G.1 vwCl [(ob, .inr (6, [.ref a1, .ref a2, .ref a3, .int (nI n), .ref a4, .int kp, .ref a5, .int (nI len), .int thr, .int (nI spot), .int bad, .int lt, .int one, .int two, .int wh, .long hash])), (a1, .inl (G.2.1, 97, .inl f)), (a2, .inl (G.2.1, 97, .inl th)), (a3, .inl (G.2.1, 582, .inl pa)), (a4, .inl (G.2.1, 97, .inl sn)), (a5, .inl (G.2.1, 60, .inl tx))] H)) (PQ (some (.int (b2 (tkP (nn tx) len spot lo hi))))) 0 0 noA := by
  refine ofB (cc := cX6_sees) (maxL := 3) (ret := (some .boolean)) (by decide) rfl (Nat.le_of_ble_eq_true rfl) ?_
  intro p e s m below meth c hx hb hr hlocks hml hown hin hts hE hI ls hl
  replace hown : s.vm.findClass RX6 = some m.cls := hown
  have hl : lv_has ls 3 [(0, .ref ob), (1, .int (nI lo)), (2, .int (nI hi))] := hl
  have hP : va_P G.1 vwCl [(ob, .inr (6, [.ref a1, .ref a2, .ref a3, .int (nI n), .ref a4, .int kp, .ref a5, .int (nI len), .int thr, .int (nI spot), .int bad, .int lt, .int one, .int two, .int wh, .long hash])), (a1, .inl (G.2.1, 97, .inl f)), (a2, .inl (G.2.1, 97, .inl th)), (a3, .inl (G.2.1, 582, .inl pa)), (a4, .inl (G.2.1, 97, .inl sn)), (a5, .inl (G.2.1, 60, .inl tx))] s.heap := hI
  have w_0 : ∀ w ∈ u_ws RX6 TX6 16, w ∈ wsX6_sees := by decide +kernel
  have w_1 := hts (.fieldLink RX6 122 "CableFerryModel" "spot" "I") (by decide +kernel)
  have w_2 := hts (.fieldLink RX6 119 "CableFerryModel" "length" "I") (by decide +kernel)
  have w_3 := hts (.fieldLink RX6 22 "CableFerryModel" "text" "[I") (by decide +kernel)
  obtain ⟨hlen, ht⟩ := htx
  refine lv_aload_n hx hb dX6_sees_0 rfl (lv_at hl 0 rfl) ?_
  refine va_get (D := G.1) (ci := 6) (v := .int (nI spot)) (C := RX6) (T := TX6) (N := 16) hx hb hts w_0 hown hE.1 hP 0 rfl rfl 9 (by decide) w_1 (fun _ h9 => h9) rfl dX6_sees_1 ?_
  refine lv_aload_n hx hb dX6_sees_4 rfl (lv_at hl 0 rfl) ?_
  refine va_get (D := G.1) (ci := 6) (v := .int (nI len)) (C := RX6) (T := TX6) (N := 16) hx hb hts w_0 hown hE.1 hP 0 rfl rfl 7 (by decide) w_2 (fun _ h9 => h9) rfl dX6_sees_5 ?_
  refine cutL (σ := Int32) (n := 3) (pc1 := 33) (fun r => r = b2 (tkP (nn tx) len spot lo hi)) (fun r => [(0, .ref ob), (1, .int (nI lo)), (2, .int (nI hi))]) (fun r => [.int r]) ?_ (fun J33 => ?_)
  · rintro r ls hI hl
    replace hI : r = b2 (tkP (nn tx) len spot lo hi) := hI
    subst hI
    have hl : lv_has ls 3 [(0, .ref ob), (1, .int (nI lo)), (2, .int (nI hi))] := hl
    refine tS (st' := [.int (b2 (tkP (nn tx) len spot lo hi))]) rfl ?_
    exact W.zret hx hb hr (b2_z _) (fun t ht hW => ⟨rfl, ht⟩) (fun _ h => nomatch h) dX6_sees_33
  · skip
    refine icmp_geN (tgt := 32) hx hb (by omega) (by omega) dX6_sees_8 (by decide) (fun c8 => ?_) (fun c8 => ?_)
    · skip
      refine lv_iconst (v := nI 0) hx hb dX6_sees_32 (by decide +kernel) ?_
      exact J33 (nI 0) _ (by simp only [b2, tkP, decide_eq_true_eq]; (repeat' split) <;> first | rfl | omega) (lv_sub hl [0, 1, 2] rfl)
    · skip
      refine lv_aload_n hx hb dX6_sees_11 rfl (lv_at hl 0 rfl) ?_
      refine va_get (D := G.1) (ci := 6) (v := .ref a5) (C := RX6) (T := TX6) (N := 16) hx hb hts w_0 hown hE.1 hP 0 rfl rfl 6 (by decide) w_3 (fun _ h9 => h9) rfl dX6_sees_12 ?_
      refine lv_aload_n hx hb dX6_sees_15 rfl (lv_at hl 0 rfl) ?_
      refine va_get (D := G.1) (ci := 6) (v := .int (nI spot)) (C := RX6) (T := TX6) (N := 16) hx hb hts w_0 hown hE.1 hP 0 rfl rfl 9 (by decide) w_1 (fun _ h9 => h9) rfl dX6_sees_16 ?_
      refine ialdN (k := spot) hx hb hE.1 hP 5 0 rfl rfl (by omega) (by decide) dX6_sees_19 ?_
      obtain ⟨ht1, ht2⟩ := ht spot c8
      refine tI (y := nI (nn tx spot)) (ht1) ?_
      refine lv_iload_n hx hb dX6_sees_20 rfl (lv_at hl 1 rfl) ?_
      refine lv_iload_n hx hb dX6_sees_21 rfl (lv_at hl 2 rfl) ?_
      refine pcall (st1 := [.int (b2 ((nI lo) ≤ (nI (nn tx spot)) ∧ (nI (nn tx spot)) ≤ (nI hi)))]) (va_runS (As := [.int (nI (nn tx spot)), .int (nI lo), .int (nI hi)]) (rest := []) ⟨hx, hb, hml, hown, hts⟩ (c_X6_in l G (nI (nn tx spot)) (nI lo) (nI hi)) (va_cwS 3 hts gX6_sees_X6_in rfl rfl rfl (by decide +kernel) ⟨Nat.le_of_ble_eq_true rfl, Nat.le_of_ble_eq_true rfl⟩) (PC.preS hE P_nil) rfl rfl hl.1 rfl (lv_room (Nat.le_of_ble_eq_true rfl)) dX6_sees_22 ⟨Nat.zero_le _, Nat.zero_le _⟩) rfl ?_
      refine tI (y := b2 (lo ≤ nn tx spot ∧ nn tx spot ≤ hi)) (b2_c (inN_iff (by omega) (by omega) (by omega))) ?_
      refine lv_if_eq (tgt := 32) hx hb dX6_sees_25 (by decide) (fun c25 => ?_) (fun c25 => ?_)
      · skip
        rw [b2_0] at c25
        refine lv_iconst (v := nI 0) hx hb dX6_sees_32 (by decide +kernel) ?_
        exact J33 (nI 0) _ (by simp only [b2, tkP, decide_eq_true_eq]; (repeat' split) <;> first | rfl | omega) (lv_sub hl [0, 1, 2] rfl)
      · skip
        rw [b2_1] at c25
        refine lv_iconst (v := nI 1) hx hb dX6_sees_28 (by decide +kernel) ?_
        refine lv_goto (tgt := 33) hx hb dX6_sees_29 (by decide) ?_
        exact J33 (nI 1) _ (by simp only [b2, tkP, decide_eq_true_eq]; (repeat' split) <;> first | rfl | omega) (lv_sub hl [0, 1, 2] rfl)
set_option maxHeartbeats 4000000 in
set_option maxRecDepth 100000 in
theorem c_X6_takes (l : Launch) (G : eG) (ob a1 a2 a3 a4 a5 : Nat) (f th pa sn tx : Nat → Int32) (n len spot : Nat) (kp thr bad lt one two wh : Int32) (hash : Int64) (htx : Tx tx len) (hsp : spot ≤ len) (bd : Bool) (lo hi : Nat) (hlo : lo < 1000) (hhi : hi < 1000) : Met l yX6_takes wsX6_takes ({ frames := 2, cells := 0, slots := 0, locals := 44 }) (PC [.ref ob, .int (nI lo), .int (nI hi)] G (fun H => va_P G.1 vwCl [(ob, .inr (6, [.ref a1, .ref a2, .ref a3, .int (nI n), .ref a4, .int kp, .ref a5, .int (nI len), .int thr, .int (nI spot), .int (b2 (bd = true)), .int lt, .int one, .int two, .int wh, .long hash])), (a1, .inl (G.2.1, 97, .inl f)), (a2, .inl (G.2.1, 97, .inl th)), (a3, .inl (G.2.1, 582, .inl pa)), (a4, .inl (G.2.1, 97, .inl sn)), (a5, .inl (G.2.1, 60, .inl tx))] H ∧ va_D (fun _ => True) [(ob, .inr (6, [.ref a1, .ref a2, .ref a3, .int (nI n), .ref a4, .int kp, .ref a5, .int (nI len), .int thr, .int (nI spot), .int (b2 (bd = true)), .int lt, .int one, .int two, .int wh, .long hash])), (a1, .inl (G.2.1, 97, .inl f)), (a2, .inl (G.2.1, 97, .inl th)), (a3, .inl (G.2.1, 582, .inl pa)), (a4, .inl (G.2.1, 97, .inl sn)), (a5, .inl (G.2.1, 60, .inl tx))])) (MV (some (.int (ov (tk (nn tx) len spot lo hi)))) (fun H => va_P G.1 vwCl [(ob, .inr (6, [.ref a1, .ref a2, .ref a3, .int (nI n), .ref a4, .int kp, .ref a5, .int (nI len), .int thr, .int (nI (tkS (nn tx) len spot lo hi)), .int (b2 (tkB (nn tx) len spot lo hi bd = true)), .int lt, .int one, .int two, .int wh, .long hash])), (a1, .inl (G.2.1, 97, .inl f)), (a2, .inl (G.2.1, 97, .inl th)), (a3, .inl (G.2.1, 582, .inl pa)), (a4, .inl (G.2.1, 97, .inl sn)), (a5, .inl (G.2.1, 60, .inl tx))] H ∧ va_D (inW [(ob, .inr (6, [.ref a1, .ref a2, .ref a3, .int (nI n), .ref a4, .int kp, .ref a5, .int (nI len), .int thr, .int (nI spot), .int (b2 (bd = true)), .int lt, .int one, .int two, .int wh, .long hash])), (a1, .inl (G.2.1, 97, .inl f)), (a2, .inl (G.2.1, 97, .inl th)), (a3, .inl (G.2.1, 582, .inl pa)), (a4, .inl (G.2.1, 97, .inl sn)), (a5, .inl (G.2.1, 60, .inl tx))]) [(ob, .inr (6, [.ref a1, .ref a2, .ref a3, .int (nI n), .ref a4, .int kp, .ref a5, .int (nI len), .int thr, .int (nI (tkS (nn tx) len spot lo hi)), .int (b2 (tkB (nn tx) len spot lo hi bd = true)), .int lt, .int one, .int two, .int wh, .long hash])), (a1, .inl (G.2.1, 97, .inl f)), (a2, .inl (G.2.1, 97, .inl th)), (a3, .inl (G.2.1, 582, .inl pa)), (a4, .inl (G.2.1, 97, .inl sn)), (a5, .inl (G.2.1, 60, .inl tx))]) (inW [(ob, .inr (6, [.ref a1, .ref a2, .ref a3, .int (nI n), .ref a4, .int kp, .ref a5, .int (nI len), .int thr, .int (nI spot), .int (b2 (bd = true)), .int lt, .int one, .int two, .int wh, .long hash])), (a1, .inl (G.2.1, 97, .inl f)), (a2, .inl (G.2.1, 97, .inl th)), (a3, .inl (G.2.1, 582, .inl pa)), (a4, .inl (G.2.1, 97, .inl sn)), (a5, .inl (G.2.1, 60, .inl tx))])) 0 0 (inW [(ob, .inr (6, [.ref a1, .ref a2, .ref a3, .int (nI n), .ref a4, .int kp, .ref a5, .int (nI len), .int thr, .int (nI spot), .int (b2 (bd = true)), .int lt, .int one, .int two, .int wh, .long hash])), (a1, .inl (G.2.1, 97, .inl f)), (a2, .inl (G.2.1, 97, .inl th)), (a3, .inl (G.2.1, 582, .inl pa)), (a4, .inl (G.2.1, 97, .inl sn)), (a5, .inl (G.2.1, 60, .inl tx))]) := by
  refine ofB (cc := cX6_takes) (maxL := 3) (ret := (some .int)) (by decide) rfl (Nat.le_of_ble_eq_true rfl) ?_
  intro p e s m below meth c hx hb hr hlocks hml hown hin hts hE hI ls hl
  replace hown : s.vm.findClass RX6 = some m.cls := hown
  have hl : lv_has ls 3 [(0, .ref ob), (1, .int (nI lo)), (2, .int (nI hi))] := hl
  obtain ⟨hP, hD0⟩ := hI
  have hD : va_D (inW [(ob, .inr (6, [.ref a1, .ref a2, .ref a3, .int (nI n), .ref a4, .int kp, .ref a5, .int (nI len), .int thr, .int (nI spot), .int (b2 (bd = true)), .int lt, .int one, .int two, .int wh, .long hash])), (a1, .inl (G.2.1, 97, .inl f)), (a2, .inl (G.2.1, 97, .inl th)), (a3, .inl (G.2.1, 582, .inl pa)), (a4, .inl (G.2.1, 97, .inl sn)), (a5, .inl (G.2.1, 60, .inl tx))]) [(ob, .inr (6, [.ref a1, .ref a2, .ref a3, .int (nI n), .ref a4, .int kp, .ref a5, .int (nI len), .int thr, .int (nI spot), .int (b2 (bd = true)), .int lt, .int one, .int two, .int wh, .long hash])), (a1, .inl (G.2.1, 97, .inl f)), (a2, .inl (G.2.1, 97, .inl th)), (a3, .inl (G.2.1, 582, .inl pa)), (a4, .inl (G.2.1, 97, .inl sn)), (a5, .inl (G.2.1, 60, .inl tx))] := D_self hD0
  obtain ⟨A, hAe⟩ : ∃ A, A = inW [(ob, .inr (6, [.ref a1, .ref a2, .ref a3, .int (nI n), .ref a4, .int kp, .ref a5, .int (nI len), .int thr, .int (nI spot), .int (b2 (bd = true)), .int lt, .int one, .int two, .int wh, .long hash])), (a1, .inl (G.2.1, 97, .inl f)), (a2, .inl (G.2.1, 97, .inl th)), (a3, .inl (G.2.1, 582, .inl pa)), (a4, .inl (G.2.1, 97, .inl sn)), (a5, .inl (G.2.1, 60, .inl tx))] := ⟨_, rfl⟩
  rw [← hAe] at hD ⊢
  have hS : va_S A s.heap s.heap [] := va_S.rf
  obtain ⟨H, hHe⟩ : ∃ H, H = s.heap := ⟨_, rfl⟩
  obtain ⟨locs, hle⟩ : ∃ q : List Loc, q = [] := ⟨_, rfl⟩
  rw [← hle] at hS ⊢
  have hP : va_P G.1 vwCl [(ob, .inr (6, [.ref a1, .ref a2, .ref a3, .int (nI n), .ref a4, .int kp, .ref a5, .int (nI len), .int thr, .int (nI spot), .int (b2 (bd = true)), .int lt, .int one, .int two, .int wh, .long hash])), (a1, .inl (G.2.1, 97, .inl f)), (a2, .inl (G.2.1, 97, .inl th)), (a3, .inl (G.2.1, 582, .inl pa)), (a4, .inl (G.2.1, 97, .inl sn)), (a5, .inl (G.2.1, 60, .inl tx))] H := by rw [hHe]; exact hP
  replace hS : va_S A s.heap H locs := by rw [hHe]; exact hS
  refine tH hHe ?_
  have w_0 : ∀ w ∈ u_ws RX6 TX6 16, w ∈ wsX6_takes := by decide +kernel
  have w_1 := hts (.fieldLink RX6 122 "CableFerryModel" "spot" "I") (by decide +kernel)
  have w_2 := hts (.fieldLink RX6 22 "CableFerryModel" "text" "[I") (by decide +kernel)
  have w_3 := hts (.fieldLink RX6 129 "CableFerryModel" "isBad" "Z") (by decide +kernel)
  have w_4 := hts (.fieldLink RX6 119 "CableFerryModel" "length" "I") (by decide +kernel)
  have hl60 := htx.1
  refine lv_aload_n hx hb dX6_takes_0 rfl (lv_at hl 0 rfl) ?_
  refine lv_iload_n hx hb dX6_takes_1 rfl (lv_at hl 1 rfl) ?_
  refine lv_iload_n hx hb dX6_takes_2 rfl (lv_at hl 2 rfl) ?_
  refine pcall (st1 := [.int (b2 (tkP (nn tx) len spot lo hi))]) (va_runV (As := [.int (nI lo), .int (nI hi)]) (rest := []) ⟨hx, hb, hml, hown, hts⟩ (c_X6_sees l G ob a1 a2 a3 a4 a5 f th pa sn tx n len spot kp thr (b2 (bd = true)) lt one two wh hash htx (by omega) lo hi (by first | omega | (unfold hiM; split <;> omega)) (by first | omega | (unfold hiM; split <;> omega))) (cwV 2 hts gX6_takes_X6_sees rfl rfl rfl (by decide +kernel) ⟨Nat.le_of_ble_eq_true rfl, Nat.le_of_ble_eq_true rfl⟩) (PC.preV hE (va_recv hE.1 hP (ci := 6) (q0 := 0) rfl rfl) hP) rfl rfl hl.1 rfl (lv_room (Nat.le_of_ble_eq_true rfl)) dX6_takes_3 ⟨Nat.zero_le _, Nat.zero_le _⟩) rfl ?_
  refine lv_if_ne (tgt := 38) hx hb dX6_takes_6 (by decide) (fun c6 => ?_) (fun c6 => ?_)
  · skip
    rw [b2_1] at c6
    refine lv_aload_n hx hb dX6_takes_38 rfl (lv_at hl 0 rfl) ?_
    refine lv_dup hx hb dX6_takes_39 rfl ?_
    refine va_get (D := G.1) (ci := 6) (v := .int (nI spot)) (C := RX6) (T := TX6) (N := 16) hx hb hts w_0 hown hE.1 hP 0 rfl rfl 9 (by decide) w_1 (fun _ h9 => h9) rfl dX6_takes_40 ?_
    refine lv_iconst (v := nI 1) hx hb dX6_takes_43 (by decide +kernel) ?_
    refine iaddN hx hb dX6_takes_44 ?_
    refine va_put (D := G.1) (ci := 6) (v := .int (nI (spot + 1))) (ty := .int) (C := RX6) (T := TX6) (N := 16) hx hb hts w_0 tyX6 tyX6_ok nmX6 hown hE.1 hP hD hS 0 rfl rfl 9 (by decide) w_1 (fun _ h9 => h9) rfl (by decide +kernel) rfl rfl (Nat.le_of_ble_eq_true rfl) dX6_takes_45 (fun H locs hP hD hS => ?_)
    have hP : va_P G.1 vwCl [(ob, .inr (6, [.ref a1, .ref a2, .ref a3, .int (nI n), .ref a4, .int kp, .ref a5, .int (nI len), .int thr, .int (nI (spot + 1)), .int (b2 (bd = true)), .int lt, .int one, .int two, .int wh, .long hash])), (a1, .inl (G.2.1, 97, .inl f)), (a2, .inl (G.2.1, 97, .inl th)), (a3, .inl (G.2.1, 582, .inl pa)), (a4, .inl (G.2.1, 97, .inl sn)), (a5, .inl (G.2.1, 60, .inl tx))] H := hP
    have hD : va_D A [(ob, .inr (6, [.ref a1, .ref a2, .ref a3, .int (nI n), .ref a4, .int kp, .ref a5, .int (nI len), .int thr, .int (nI (spot + 1)), .int (b2 (bd = true)), .int lt, .int one, .int two, .int wh, .long hash])), (a1, .inl (G.2.1, 97, .inl f)), (a2, .inl (G.2.1, 97, .inl th)), (a3, .inl (G.2.1, 582, .inl pa)), (a4, .inl (G.2.1, 97, .inl sn)), (a5, .inl (G.2.1, 60, .inl tx))] := hD
    refine lv_aload_n hx hb dX6_takes_48 rfl (lv_at hl 0 rfl) ?_
    refine va_get (D := G.1) (ci := 6) (v := .ref a5) (C := RX6) (T := TX6) (N := 16) hx hb hts w_0 hown hE.1 hP 0 rfl rfl 6 (by decide) w_2 (fun _ h9 => h9) rfl dX6_takes_49 ?_
    refine lv_aload_n hx hb dX6_takes_52 rfl (lv_at hl 0 rfl) ?_
    refine va_get (D := G.1) (ci := 6) (v := .int (nI (spot + 1))) (C := RX6) (T := TX6) (N := 16) hx hb hts w_0 hown hE.1 hP 0 rfl rfl 9 (by decide) w_1 (fun _ h9 => h9) rfl dX6_takes_53 ?_
    refine lv_iconst (v := nI 1) hx hb dX6_takes_56 (by decide +kernel) ?_
    refine isubN hx hb (by omega) dX6_takes_57 ?_
    refine ialdN (k := ((spot + 1) - 1)) hx hb hE.1 hP 5 0 rfl rfl (by omega) (by decide) dX6_takes_58 ?_
    refine tI (y := nI (nn tx spot)) (htx.2 spot c6.1).1 ?_
    refine lv_iload_n hx hb dX6_takes_59 rfl (lv_at hl 1 rfl) ?_
    refine isubN hx hb (by omega) dX6_takes_60 ?_
    refine tS (st' := [.int (ov (tk (nn tx) len spot lo hi))]) (congrArg (fun z => [Value.int z]) (by rw [tk_y c6]; rfl)) ?_
    exact W.iret hx hb hr (fun t ht hW => ⟨rfl, by rw [ht]; exact (by rw [tkS_y c6, tkB_y c6]; exact ⟨hP, hD⟩), hS.F ht⟩) hS.2.2 dX6_takes_61
  · skip
    rw [b2_0] at c6
    refine lv_aload_n hx hb dX6_takes_9 rfl (lv_at hl 0 rfl) ?_
    refine lv_aload_n hx hb dX6_takes_10 rfl (lv_at hl 0 rfl) ?_
    refine va_get (D := G.1) (ci := 6) (v := .int (b2 (bd = true))) (C := RX6) (T := TX6) (N := 16) hx hb hts w_0 hown hE.1 hP 0 rfl rfl 10 (by decide) w_3 (fun _ h9 => h9) rfl dX6_takes_11 ?_
    refine cutL (σ := Int32) (n := 3) (pc1 := 33) (fun r => r = b2 (tkB (nn tx) len spot lo hi bd = true)) (fun r => [(0, .ref ob), (1, .int (nI lo)), (2, .int (nI hi))]) (fun r => [.int r, .ref ob]) ?_ (fun J33 => ?_)
    · rintro r ls hI hl
      replace hI : r = b2 (tkB (nn tx) len spot lo hi bd = true) := hI
      subst hI
      have hl : lv_has ls 3 [(0, .ref ob), (1, .int (nI lo)), (2, .int (nI hi))] := hl
      refine tS (st' := [.int (b2 (tkB (nn tx) len spot lo hi bd = true)), .ref ob]) rfl ?_
      refine va_put (D := G.1) (ci := 6) (v := .int (b2 (tkB (nn tx) len spot lo hi bd = true))) (ty := .boolean) (C := RX6) (T := TX6) (N := 16) hx hb hts w_0 tyX6 tyX6_ok nmX6 hown hE.1 hP hD hS 0 rfl rfl 10 (by decide) w_3 (fun _ h9 => h9) rfl (by decide +kernel) (b2_z _) (b2_fit _) (Nat.le_of_ble_eq_true rfl) dX6_takes_33 (fun H locs hP hD hS => ?_)
      have hP : va_P G.1 vwCl [(ob, .inr (6, [.ref a1, .ref a2, .ref a3, .int (nI n), .ref a4, .int kp, .ref a5, .int (nI len), .int thr, .int (nI spot), .int (b2 (tkB (nn tx) len spot lo hi bd = true)), .int lt, .int one, .int two, .int wh, .long hash])), (a1, .inl (G.2.1, 97, .inl f)), (a2, .inl (G.2.1, 97, .inl th)), (a3, .inl (G.2.1, 582, .inl pa)), (a4, .inl (G.2.1, 97, .inl sn)), (a5, .inl (G.2.1, 60, .inl tx))] H := hP
      have hD : va_D A [(ob, .inr (6, [.ref a1, .ref a2, .ref a3, .int (nI n), .ref a4, .int kp, .ref a5, .int (nI len), .int thr, .int (nI spot), .int (b2 (tkB (nn tx) len spot lo hi bd = true)), .int lt, .int one, .int two, .int wh, .long hash])), (a1, .inl (G.2.1, 97, .inl f)), (a2, .inl (G.2.1, 97, .inl th)), (a3, .inl (G.2.1, 582, .inl pa)), (a4, .inl (G.2.1, 97, .inl sn)), (a5, .inl (G.2.1, 60, .inl tx))] := hD
      refine lv_iconst (v := -1) hx hb dX6_takes_36 (by decide +kernel) ?_
      refine tS (st' := [.int (ov (tk (nn tx) len spot lo hi))]) (congrArg (fun z => [Value.int z]) (by rw [tk_n c6]; rfl)) ?_
      exact W.iret hx hb hr (fun t ht hW => ⟨rfl, by rw [ht]; exact (by rw [tkS_n c6]; exact ⟨hP, hD⟩), hS.F ht⟩) hS.2.2 dX6_takes_37
    · skip
      refine lv_if_ne (tgt := 28) hx hb dX6_takes_14 (by decide) (fun c14 => ?_) (fun c14 => ?_)
      · skip
        refine lv_iconst (v := nI 1) hx hb dX6_takes_28 (by decide +kernel) ?_
        refine lv_goto (tgt := 33) hx hb dX6_takes_29 (by decide) ?_
        exact J33 (nI 1) _ (by rw [tkB_n c6]; (try rw [b2_0] at c14); (try rw [b2_1] at c14); simp only [b2, Bool.or_eq_true, decide_eq_true_eq]; (repeat' split) <;> first | rfl | omega | (simp_all; done) | (simp_all; omega)) (lv_sub hl [0, 1, 2] rfl)
      · skip
        refine lv_aload_n hx hb dX6_takes_17 rfl (lv_at hl 0 rfl) ?_
        refine va_get (D := G.1) (ci := 6) (v := .int (nI spot)) (C := RX6) (T := TX6) (N := 16) hx hb hts w_0 hown hE.1 hP 0 rfl rfl 9 (by decide) w_1 (fun _ h9 => h9) rfl dX6_takes_18 ?_
        refine lv_aload_n hx hb dX6_takes_21 rfl (lv_at hl 0 rfl) ?_
        refine va_get (D := G.1) (ci := 6) (v := .int (nI len)) (C := RX6) (T := TX6) (N := 16) hx hb hts w_0 hown hE.1 hP 0 rfl rfl 7 (by decide) w_4 (fun _ h9 => h9) rfl dX6_takes_22 ?_
        refine icmp_geN (tgt := 32) hx hb (by omega) (by omega) dX6_takes_25 (by decide) (fun c25 => ?_) (fun c25 => ?_)
        · skip
          refine lv_iconst (v := nI 0) hx hb dX6_takes_32 (by decide +kernel) ?_
          exact J33 (nI 0) _ (by rw [tkB_n c6]; (try rw [b2_0] at c14); (try rw [b2_1] at c14); simp only [b2, Bool.or_eq_true, decide_eq_true_eq]; (repeat' split) <;> first | rfl | omega | (simp_all; done) | (simp_all; omega)) (lv_sub hl [0, 1, 2] rfl)
        · skip
          refine lv_iconst (v := nI 1) hx hb dX6_takes_28 (by decide +kernel) ?_
          refine lv_goto (tgt := 33) hx hb dX6_takes_29 (by decide) ?_
          exact J33 (nI 1) _ (by rw [tkB_n c6]; (try rw [b2_0] at c14); (try rw [b2_1] at c14); simp only [b2, Bool.or_eq_true, decide_eq_true_eq]; (repeat' split) <;> first | rfl | omega | (simp_all; done) | (simp_all; omega)) (lv_sub hl [0, 1, 2] rfl)
set_option maxHeartbeats 4000000 in
set_option maxRecDepth 100000 in
theorem c_X6_number (l : Launch) (G : eG) (ob a1 a2 a3 a4 a5 : Nat) (f th pa sn tx : Nat → Int32) (n len spot : Nat) (kp thr bad lt one two wh : Int32) (hash : Int64) (htx : Tx tx len) (hsp : spot ≤ len) (bd : Bool) (M : Nat) (hM : M < 100) : Met l yX6_number wsX6_number ({ frames := 3, cells := 0, slots := 0, locals := 66 }) (PC [.ref ob, .int (nI M)] G (fun H => va_P G.1 vwCl [(ob, .inr (6, [.ref a1, .ref a2, .ref a3, .int (nI n), .ref a4, .int kp, .ref a5, .int (nI len), .int thr, .int (nI spot), .int (b2 (bd = true)), .int lt, .int one, .int two, .int wh, .long hash])), (a1, .inl (G.2.1, 97, .inl f)), (a2, .inl (G.2.1, 97, .inl th)), (a3, .inl (G.2.1, 582, .inl pa)), (a4, .inl (G.2.1, 97, .inl sn)), (a5, .inl (G.2.1, 60, .inl tx))] H ∧ va_D (fun _ => True) [(ob, .inr (6, [.ref a1, .ref a2, .ref a3, .int (nI n), .ref a4, .int kp, .ref a5, .int (nI len), .int thr, .int (nI spot), .int (b2 (bd = true)), .int lt, .int one, .int two, .int wh, .long hash])), (a1, .inl (G.2.1, 97, .inl f)), (a2, .inl (G.2.1, 97, .inl th)), (a3, .inl (G.2.1, 582, .inl pa)), (a4, .inl (G.2.1, 97, .inl sn)), (a5, .inl (G.2.1, 60, .inl tx))])) (MV (some (.int (ov (nb (nn tx) len spot M)))) (fun H => va_P G.1 vwCl [(ob, .inr (6, [.ref a1, .ref a2, .ref a3, .int (nI n), .ref a4, .int kp, .ref a5, .int (nI len), .int thr, .int (nI (nbS (nn tx) len spot M)), .int (b2 (nbB (nn tx) len spot M bd = true)), .int lt, .int one, .int two, .int wh, .long hash])), (a1, .inl (G.2.1, 97, .inl f)), (a2, .inl (G.2.1, 97, .inl th)), (a3, .inl (G.2.1, 582, .inl pa)), (a4, .inl (G.2.1, 97, .inl sn)), (a5, .inl (G.2.1, 60, .inl tx))] H ∧ va_D (inW [(ob, .inr (6, [.ref a1, .ref a2, .ref a3, .int (nI n), .ref a4, .int kp, .ref a5, .int (nI len), .int thr, .int (nI spot), .int (b2 (bd = true)), .int lt, .int one, .int two, .int wh, .long hash])), (a1, .inl (G.2.1, 97, .inl f)), (a2, .inl (G.2.1, 97, .inl th)), (a3, .inl (G.2.1, 582, .inl pa)), (a4, .inl (G.2.1, 97, .inl sn)), (a5, .inl (G.2.1, 60, .inl tx))]) [(ob, .inr (6, [.ref a1, .ref a2, .ref a3, .int (nI n), .ref a4, .int kp, .ref a5, .int (nI len), .int thr, .int (nI (nbS (nn tx) len spot M)), .int (b2 (nbB (nn tx) len spot M bd = true)), .int lt, .int one, .int two, .int wh, .long hash])), (a1, .inl (G.2.1, 97, .inl f)), (a2, .inl (G.2.1, 97, .inl th)), (a3, .inl (G.2.1, 582, .inl pa)), (a4, .inl (G.2.1, 97, .inl sn)), (a5, .inl (G.2.1, 60, .inl tx))]) (inW [(ob, .inr (6, [.ref a1, .ref a2, .ref a3, .int (nI n), .ref a4, .int kp, .ref a5, .int (nI len), .int thr, .int (nI spot), .int (b2 (bd = true)), .int lt, .int one, .int two, .int wh, .long hash])), (a1, .inl (G.2.1, 97, .inl f)), (a2, .inl (G.2.1, 97, .inl th)), (a3, .inl (G.2.1, 582, .inl pa)), (a4, .inl (G.2.1, 97, .inl sn)), (a5, .inl (G.2.1, 60, .inl tx))])) 0 0 (inW [(ob, .inr (6, [.ref a1, .ref a2, .ref a3, .int (nI n), .ref a4, .int kp, .ref a5, .int (nI len), .int thr, .int (nI spot), .int (b2 (bd = true)), .int lt, .int one, .int two, .int wh, .long hash])), (a1, .inl (G.2.1, 97, .inl f)), (a2, .inl (G.2.1, 97, .inl th)), (a3, .inl (G.2.1, 582, .inl pa)), (a4, .inl (G.2.1, 97, .inl sn)), (a5, .inl (G.2.1, 60, .inl tx))]) := by
  refine ofB (cc := cX6_number) (maxL := 3) (ret := (some .int)) (by decide) rfl (Nat.le_of_ble_eq_true rfl) ?_
  intro p e s m below meth c hx hb hr hlocks hml hown hin hts hE hI ls hl
  replace hown : s.vm.findClass RX6 = some m.cls := hown
  have hl : lv_has ls 3 [(0, .ref ob), (1, .int (nI M))] := hl
  obtain ⟨hP, hD0⟩ := hI
  have hD : va_D (inW [(ob, .inr (6, [.ref a1, .ref a2, .ref a3, .int (nI n), .ref a4, .int kp, .ref a5, .int (nI len), .int thr, .int (nI spot), .int (b2 (bd = true)), .int lt, .int one, .int two, .int wh, .long hash])), (a1, .inl (G.2.1, 97, .inl f)), (a2, .inl (G.2.1, 97, .inl th)), (a3, .inl (G.2.1, 582, .inl pa)), (a4, .inl (G.2.1, 97, .inl sn)), (a5, .inl (G.2.1, 60, .inl tx))]) [(ob, .inr (6, [.ref a1, .ref a2, .ref a3, .int (nI n), .ref a4, .int kp, .ref a5, .int (nI len), .int thr, .int (nI spot), .int (b2 (bd = true)), .int lt, .int one, .int two, .int wh, .long hash])), (a1, .inl (G.2.1, 97, .inl f)), (a2, .inl (G.2.1, 97, .inl th)), (a3, .inl (G.2.1, 582, .inl pa)), (a4, .inl (G.2.1, 97, .inl sn)), (a5, .inl (G.2.1, 60, .inl tx))] := D_self hD0
  obtain ⟨A, hAe⟩ : ∃ A, A = inW [(ob, .inr (6, [.ref a1, .ref a2, .ref a3, .int (nI n), .ref a4, .int kp, .ref a5, .int (nI len), .int thr, .int (nI spot), .int (b2 (bd = true)), .int lt, .int one, .int two, .int wh, .long hash])), (a1, .inl (G.2.1, 97, .inl f)), (a2, .inl (G.2.1, 97, .inl th)), (a3, .inl (G.2.1, 582, .inl pa)), (a4, .inl (G.2.1, 97, .inl sn)), (a5, .inl (G.2.1, 60, .inl tx))] := ⟨_, rfl⟩
  rw [← hAe] at hD ⊢
  have hS : va_S A s.heap s.heap [] := va_S.rf
  obtain ⟨H, hHe⟩ : ∃ H, H = s.heap := ⟨_, rfl⟩
  obtain ⟨locs, hle⟩ : ∃ q : List Loc, q = [] := ⟨_, rfl⟩
  rw [← hle] at hS ⊢
  have hP : va_P G.1 vwCl [(ob, .inr (6, [.ref a1, .ref a2, .ref a3, .int (nI n), .ref a4, .int kp, .ref a5, .int (nI len), .int thr, .int (nI spot), .int (b2 (bd = true)), .int lt, .int one, .int two, .int wh, .long hash])), (a1, .inl (G.2.1, 97, .inl f)), (a2, .inl (G.2.1, 97, .inl th)), (a3, .inl (G.2.1, 582, .inl pa)), (a4, .inl (G.2.1, 97, .inl sn)), (a5, .inl (G.2.1, 60, .inl tx))] H := by rw [hHe]; exact hP
  replace hS : va_S A s.heap H locs := by rw [hHe]; exact hS
  refine tH hHe ?_
  have w_0 : ∀ w ∈ u_ws RX6 TX6 16, w ∈ wsX6_number := by decide +kernel
  have w_1 := hts (.fieldLink RX6 22 "CableFerryModel" "text" "[I") (by decide +kernel)
  have w_2 := hts (.fieldLink RX6 122 "CableFerryModel" "spot" "I") (by decide +kernel)
  have hl60 := htx.1
  refine lv_aload_n hx hb dX6_number_0 rfl (lv_at hl 0 rfl) ?_
  refine lv_bipush (v := nI 49) hx hb dX6_number_1 (by decide +kernel) ?_
  refine lv_iload_n hx hb dX6_number_3 rfl (lv_at hl 1 rfl) ?_
  refine lv_bipush (v := nI 10) hx hb dX6_number_4 (by decide +kernel) ?_
  refine cutL (σ := Nat) (n := 3) (pc1 := 18) (fun r => r = hiM M) (fun r => [(0, .ref ob), (1, .int (nI M))]) (fun r => [.int (nI r), .int (nI 49), .ref ob]) ?_ (fun J18 => ?_)
  · rintro r ls hI hl
    replace hI : r = hiM M := hI
    subst hI
    have hl : lv_has ls 3 [(0, .ref ob), (1, .int (nI M))] := hl
    refine tS (st' := [.int (nI (hiM M)), .int (nI 49), .ref ob]) rfl ?_
    have hPc := hP.sub (ws' := [(ob, .inr (6, [.ref a1, .ref a2, .ref a3, .int (nI n), .ref a4, .int kp, .ref a5, .int (nI len), .int thr, .int (nI spot), .int (b2 (bd = true)), .int lt, .int one, .int two, .int wh, .long hash])), (a1, .inl (G.2.1, 97, .inl f)), (a2, .inl (G.2.1, 97, .inl th)), (a3, .inl (G.2.1, 582, .inl pa)), (a4, .inl (G.2.1, 97, .inl sn)), (a5, .inl (G.2.1, 60, .inl tx))]) [0, 1, 2, 3, 4, 5] rfl
    have hDc := hD.sub (ws' := [(ob, .inr (6, [.ref a1, .ref a2, .ref a3, .int (nI n), .ref a4, .int kp, .ref a5, .int (nI len), .int thr, .int (nI spot), .int (b2 (bd = true)), .int lt, .int one, .int two, .int wh, .long hash])), (a1, .inl (G.2.1, 97, .inl f)), (a2, .inl (G.2.1, 97, .inl th)), (a3, .inl (G.2.1, 582, .inl pa)), (a4, .inl (G.2.1, 97, .inl sn)), (a5, .inl (G.2.1, 60, .inl tx))]) [0, 1, 2, 3, 4, 5] (by decide) rfl
    refine mcall (st1 := [.int (ov (tk (nn tx) len spot 49 (hiM M)))]) (va_runV (As := [.int (nI 49), .int (nI (hiM M))]) (rest := []) ⟨hx, hb, hml, hown, hts⟩ (c_X6_takes l G ob a1 a2 a3 a4 a5 f th pa sn tx n len spot kp thr (b2 (bd = true)) lt one two wh hash htx (by omega) bd 49 (hiM M) (by first | omega | (unfold hiM; split <;> omega)) (by first | omega | (unfold hiM; split <;> omega))) (cwV 2 hts gX6_number_X6_takes rfl rfl rfl (by decide +kernel) ⟨Nat.le_of_ble_eq_true rfl, Nat.le_of_ble_eq_true rfl⟩) (PC.preV hE (va_recv hE.1 hP (ci := 6) (q0 := 0) rfl rfl) ⟨hPc, hDc.weaken (fun _ _ _ _ => trivial)⟩) rfl rfl hl.1 rfl (lv_room (Nat.le_of_ble_eq_true rfl)) dX6_number_18 ⟨Nat.zero_le _, Nat.zero_le _⟩) hS (fun q _ h => inW_D hDc q h) (fun q h => inW_D hDc q h) rfl (fun H1 locs1 hB hz1 hk1 hS => ?_)
    obtain ⟨hP1, hD1⟩ := hB
    obtain ⟨hP, hD⟩ := jnW (wr := []) (w1 := [(ob, .inr (6, [.ref a1, .ref a2, .ref a3, .int (nI n), .ref a4, .int kp, .ref a5, .int (nI len), .int thr, .int (nI (tkS (nn tx) len spot 49 (hiM M))), .int (b2 (tkB (nn tx) len spot 49 (hiM M) bd = true)), .int lt, .int one, .int two, .int wh, .long hash])), (a1, .inl (G.2.1, 97, .inl f)), (a2, .inl (G.2.1, 97, .inl th)), (a3, .inl (G.2.1, 582, .inl pa)), (a4, .inl (G.2.1, 97, .inl sn)), (a5, .inl (G.2.1, 60, .inl tx))]) hP hD [0, 1, 2, 3, 4, 5] [] rfl rfl (by decide) (by decide) hk1 hP1 hD1
    generalize H1 = H at hP hS ⊢
    have hP : va_P G.1 vwCl [(ob, .inr (6, [.ref a1, .ref a2, .ref a3, .int (nI n), .ref a4, .int kp, .ref a5, .int (nI len), .int thr, .int (nI (tkS (nn tx) len spot 49 (hiM M))), .int (b2 (tkB (nn tx) len spot 49 (hiM M) bd = true)), .int lt, .int one, .int two, .int wh, .long hash])), (a1, .inl (G.2.1, 97, .inl f)), (a2, .inl (G.2.1, 97, .inl th)), (a3, .inl (G.2.1, 582, .inl pa)), (a4, .inl (G.2.1, 97, .inl sn)), (a5, .inl (G.2.1, 60, .inl tx))] H := hP
    have hD : va_D A [(ob, .inr (6, [.ref a1, .ref a2, .ref a3, .int (nI n), .ref a4, .int kp, .ref a5, .int (nI len), .int thr, .int (nI (tkS (nn tx) len spot 49 (hiM M))), .int (b2 (tkB (nn tx) len spot 49 (hiM M) bd = true)), .int lt, .int one, .int two, .int wh, .long hash])), (a1, .inl (G.2.1, 97, .inl f)), (a2, .inl (G.2.1, 97, .inl th)), (a3, .inl (G.2.1, 582, .inl pa)), (a4, .inl (G.2.1, 97, .inl sn)), (a5, .inl (G.2.1, 60, .inl tx))] := hD
    refine lv_istore_n (lv' := [(2, .int (ov (tk (nn tx) len spot 49 (hiM M)))), (0, .ref ob), (1, .int (nI M))]) hx hb dX6_number_21 rfl hl (by decide) rfl (fun ls hl => ?_)
    refine lv_iload_n hx hb dX6_number_22 rfl (lv_at hl 0 rfl) ?_
    refine lv_iconst (v := -1) hx hb dX6_number_23 (by decide +kernel) ?_
    refine lv_icmp_ne (tgt := 29) hx hb dX6_number_24 (by decide) (fun c24 => ?_) (fun c24 => ?_)
    · skip
      have hk : tkP (nn tx) len spot 49 (hiM M) := Classical.not_not.mp (fun q => c24 ((ov_m1 (fun v h => by have := tk_lt (by first | omega | (unfold hiM; split <;> omega)) v h; omega)).mpr (tk_none.mpr q)))
      obtain ⟨k1, k2, k3⟩ := id hk
      have hh := hiM_le (M := M)
      rw [tkS_y hk] at hP hD
      rw [tk_y hk, ov_s] at hl
      have hP : va_P G.1 vwCl [(ob, .inr (6, [.ref a1, .ref a2, .ref a3, .int (nI n), .ref a4, .int kp, .ref a5, .int (nI len), .int thr, .int (nI (spot + 1)), .int (b2 (tkB (nn tx) len spot 49 (hiM M) bd = true)), .int lt, .int one, .int two, .int wh, .long hash])), (a1, .inl (G.2.1, 97, .inl f)), (a2, .inl (G.2.1, 97, .inl th)), (a3, .inl (G.2.1, 582, .inl pa)), (a4, .inl (G.2.1, 97, .inl sn)), (a5, .inl (G.2.1, 60, .inl tx))] H := hP
      have hD : va_D A [(ob, .inr (6, [.ref a1, .ref a2, .ref a3, .int (nI n), .ref a4, .int kp, .ref a5, .int (nI len), .int thr, .int (nI (spot + 1)), .int (b2 (tkB (nn tx) len spot 49 (hiM M) bd = true)), .int lt, .int one, .int two, .int wh, .long hash])), (a1, .inl (G.2.1, 97, .inl f)), (a2, .inl (G.2.1, 97, .inl th)), (a3, .inl (G.2.1, 582, .inl pa)), (a4, .inl (G.2.1, 97, .inl sn)), (a5, .inl (G.2.1, 60, .inl tx))] := hD
      have hl : lv_has ls 3 [(2, .int (nI (nn tx spot - 49))), (0, .ref ob), (1, .int (nI M))] := hl
      refine lv_iinc (v := nI (nn tx spot - 49 + 1)) (lv' := [(2, .int (nI (nn tx spot - 49 + 1))), (0, .ref ob), (1, .int (nI M))]) hx hb dX6_number_29 hl (k := 0) rfl (nI_inc1 _) (by decide) rfl (fun ls hl => ?_)
      refine lv_aload_n hx hb dX6_number_32 rfl (lv_at hl 1 rfl) ?_
      refine lv_bipush (v := nI 48) hx hb dX6_number_33 (by decide +kernel) ?_
      refine lv_bipush (v := nI 57) hx hb dX6_number_35 (by decide +kernel) ?_
      refine pcall (st1 := [.int (b2 (tkP (nn tx) len (spot + 1) 48 57))]) (va_runV (As := [.int (nI 48), .int (nI 57)]) (rest := []) ⟨hx, hb, hml, hown, hts⟩ (c_X6_sees l G ob a1 a2 a3 a4 a5 f th pa sn tx n len (spot + 1) kp thr (b2 (tkB (nn tx) len spot 49 (hiM M) bd = true)) lt one two wh hash htx (by omega) 48 57 (by first | omega | (unfold hiM; split <;> omega)) (by first | omega | (unfold hiM; split <;> omega))) (cwV 2 hts gX6_number_X6_sees rfl rfl rfl (by decide +kernel) ⟨Nat.le_of_ble_eq_true rfl, Nat.le_of_ble_eq_true rfl⟩) (PC.preV hE (va_recv hE.1 hP (ci := 6) (q0 := 0) rfl rfl) hP) rfl rfl hl.1 rfl (lv_room (Nat.le_of_ble_eq_true rfl)) dX6_number_37 ⟨Nat.zero_le _, Nat.zero_le _⟩) rfl ?_
      refine lv_if_eq (tgt := 92) hx hb dX6_number_40 (by decide) (fun c40 => ?_) (fun c40 => ?_)
      · skip
        rw [b2_0] at c40
        refine lv_iload_n hx hb dX6_number_92 rfl (lv_at hl 0 rfl) ?_
        refine tS (st' := [.int (ov (nb (nn tx) len spot M))]) (congrArg (fun z => [Value.int z]) (by rw [(nb_1 hk (fun q => c40 q.1)).1]; rfl)) ?_
        exact W.iret hx hb hr (fun t ht hW => ⟨rfl, by rw [ht]; exact (by rw [(nb_1 hk (fun q => c40 q.1)).2]; exact ⟨hP, hD⟩), hS.F ht⟩) hS.2.2 dX6_number_93
      · skip
        rw [b2_1] at c40
        obtain ⟨q1, q2, q3⟩ := id c40
        refine lv_bipush (v := nI 10) hx hb dX6_number_43 (by decide +kernel) ?_
        refine lv_iload_n hx hb dX6_number_45 rfl (lv_at hl 0 rfl) ?_
        refine imulN hx hb dX6_number_46 ?_
        refine lv_aload_n hx hb dX6_number_47 rfl (lv_at hl 1 rfl) ?_
        refine va_get (D := G.1) (ci := 6) (v := .ref a5) (C := RX6) (T := TX6) (N := 16) hx hb hts w_0 hown hE.1 hP 0 rfl rfl 6 (by decide) w_1 (fun _ h9 => h9) rfl dX6_number_48 ?_
        refine lv_aload_n hx hb dX6_number_51 rfl (lv_at hl 1 rfl) ?_
        refine va_get (D := G.1) (ci := 6) (v := .int (nI (spot + 1))) (C := RX6) (T := TX6) (N := 16) hx hb hts w_0 hown hE.1 hP 0 rfl rfl 9 (by decide) w_2 (fun _ h9 => h9) rfl dX6_number_52 ?_
        refine ialdN (k := (spot + 1)) hx hb hE.1 hP 5 0 rfl rfl (by omega) (by decide) dX6_number_55 ?_
        refine tI (y := nI (nn tx (spot + 1))) (htx.2 _ q1).1 ?_
        refine iaddN hx hb dX6_number_56 ?_
        refine lv_bipush (v := nI 48) hx hb dX6_number_57 (by decide +kernel) ?_
        refine isubN hx hb (by omega) dX6_number_59 ?_
        refine lv_iload_n hx hb dX6_number_60 rfl (lv_at hl 2 rfl) ?_
        refine icmp_gtN (tgt := 92) hx hb (by omega) (by omega) dX6_number_61 (by decide) (fun c61 => ?_) (fun c61 => ?_)
        · skip
          refine lv_iload_n hx hb dX6_number_92 rfl (lv_at hl 0 rfl) ?_
          refine tS (st' := [.int (ov (nb (nn tx) len spot M))]) (congrArg (fun z => [Value.int z]) (by rw [(nb_1 hk (fun q => by have := q.2; omega)).1]; rfl)) ?_
          exact W.iret hx hb hr (fun t ht hW => ⟨rfl, by rw [ht]; exact (by rw [(nb_1 hk (fun q => by have := q.2; omega)).2]; exact ⟨hP, hD⟩), hS.F ht⟩) hS.2.2 dX6_number_93
        · skip
          refine lv_bipush (v := nI 10) hx hb dX6_number_64 (by decide +kernel) ?_
          refine lv_iload_n hx hb dX6_number_66 rfl (lv_at hl 0 rfl) ?_
          refine imulN hx hb dX6_number_67 ?_
          refine lv_aload_n hx hb dX6_number_68 rfl (lv_at hl 1 rfl) ?_
          refine va_get (D := G.1) (ci := 6) (v := .ref a5) (C := RX6) (T := TX6) (N := 16) hx hb hts w_0 hown hE.1 hP 0 rfl rfl 6 (by decide) w_1 (fun _ h9 => h9) rfl dX6_number_69 ?_
          refine lv_aload_n hx hb dX6_number_72 rfl (lv_at hl 1 rfl) ?_
          refine va_get (D := G.1) (ci := 6) (v := .int (nI (spot + 1))) (C := RX6) (T := TX6) (N := 16) hx hb hts w_0 hown hE.1 hP 0 rfl rfl 9 (by decide) w_2 (fun _ h9 => h9) rfl dX6_number_73 ?_
          refine ialdN (k := (spot + 1)) hx hb hE.1 hP 5 0 rfl rfl (by omega) (by decide) dX6_number_76 ?_
          refine tI (y := nI (nn tx (spot + 1))) (htx.2 _ q1).1 ?_
          refine iaddN hx hb dX6_number_77 ?_
          refine lv_bipush (v := nI 48) hx hb dX6_number_78 (by decide +kernel) ?_
          refine isubN hx hb (by omega) dX6_number_80 ?_
          refine lv_istore_n (lv' := [(2, .int (nI (((10 * (nn tx spot - 49 + 1)) + (nn tx (spot + 1))) - 48))), (0, .ref ob), (1, .int (nI M))]) hx hb dX6_number_81 rfl hl (by decide) rfl (fun ls hl => ?_)
          refine lv_aload_n hx hb dX6_number_82 rfl (lv_at hl 1 rfl) ?_
          refine lv_dup hx hb dX6_number_83 rfl ?_
          refine va_get (D := G.1) (ci := 6) (v := .int (nI (spot + 1))) (C := RX6) (T := TX6) (N := 16) hx hb hts w_0 hown hE.1 hP 0 rfl rfl 9 (by decide) w_2 (fun _ h9 => h9) rfl dX6_number_84 ?_
          refine lv_iconst (v := nI 1) hx hb dX6_number_87 (by decide +kernel) ?_
          refine iaddN hx hb dX6_number_88 ?_
          refine va_put (D := G.1) (ci := 6) (v := .int (nI ((spot + 1) + 1))) (ty := .int) (C := RX6) (T := TX6) (N := 16) hx hb hts w_0 tyX6 tyX6_ok nmX6 hown hE.1 hP hD hS 0 rfl rfl 9 (by decide) w_2 (fun _ h9 => h9) rfl (by decide +kernel) rfl rfl (Nat.le_of_ble_eq_true rfl) dX6_number_89 (fun H locs hP hD hS => ?_)
          have hP : va_P G.1 vwCl [(ob, .inr (6, [.ref a1, .ref a2, .ref a3, .int (nI n), .ref a4, .int kp, .ref a5, .int (nI len), .int thr, .int (nI ((spot + 1) + 1)), .int (b2 (tkB (nn tx) len spot 49 (hiM M) bd = true)), .int lt, .int one, .int two, .int wh, .long hash])), (a1, .inl (G.2.1, 97, .inl f)), (a2, .inl (G.2.1, 97, .inl th)), (a3, .inl (G.2.1, 582, .inl pa)), (a4, .inl (G.2.1, 97, .inl sn)), (a5, .inl (G.2.1, 60, .inl tx))] H := hP
          have hD : va_D A [(ob, .inr (6, [.ref a1, .ref a2, .ref a3, .int (nI n), .ref a4, .int kp, .ref a5, .int (nI len), .int thr, .int (nI ((spot + 1) + 1)), .int (b2 (tkB (nn tx) len spot 49 (hiM M) bd = true)), .int lt, .int one, .int two, .int wh, .long hash])), (a1, .inl (G.2.1, 97, .inl f)), (a2, .inl (G.2.1, 97, .inl th)), (a3, .inl (G.2.1, 582, .inl pa)), (a4, .inl (G.2.1, 97, .inl sn)), (a5, .inl (G.2.1, 60, .inl tx))] := hD
          refine lv_iload_n hx hb dX6_number_92 rfl (lv_at hl 0 rfl) ?_
          refine tS (st' := [.int (ov (nb (nn tx) len spot M))]) (congrArg (fun z => [Value.int z]) (by rw [(nb_2 hk ⟨c40, c61⟩).1]; rfl)) ?_
          exact W.iret hx hb hr (fun t ht hW => ⟨rfl, by rw [ht]; exact (by rw [(nb_2 hk ⟨c40, c61⟩).2]; exact ⟨hP, hD⟩), hS.F ht⟩) hS.2.2 dX6_number_93
    · skip
      have hk := tk_none.mp ((ov_m1 (fun v h => by have := tk_lt (by first | omega | (unfold hiM; split <;> omega)) v h; omega)).mp c24)
      refine lv_iconst (v := -1) hx hb dX6_number_27 (by decide +kernel) ?_
      refine tS (st' := [.int (ov (nb (nn tx) len spot M))]) (congrArg (fun z => [Value.int z]) (by rw [(nb_n hk).1]; rfl)) ?_
      exact W.iret hx hb hr (fun t ht hW => ⟨rfl, by rw [ht]; exact (by rw [(nb_n hk).2]; rw [tkS_n hk] at hP hD; exact ⟨hP, hD⟩), hS.F ht⟩) hS.2.2 dX6_number_28
  · skip
    refine icmp_geN (tgt := 16) hx hb (by omega) (by omega) dX6_number_6 (by decide) (fun c6 => ?_) (fun c6 => ?_)
    · skip
      refine lv_bipush (v := nI 57) hx hb dX6_number_16 (by decide +kernel) ?_
      exact J18 57 _ (by unfold hiM; split <;> omega) (lv_sub hl [0, 1] rfl)
    · skip
      refine lv_bipush (v := nI 48) hx hb dX6_number_9 (by decide +kernel) ?_
      refine lv_iload_n hx hb dX6_number_11 rfl (lv_at hl 1 rfl) ?_
      refine iaddN hx hb dX6_number_12 ?_
      refine lv_goto (tgt := 18) hx hb dX6_number_13 (by decide) ?_
      exact J18 (48 + M) _ (by unfold hiM; split <;> omega) (lv_sub hl [0, 1] rfl)
set_option maxHeartbeats 4000000 in
set_option maxRecDepth 100000 in
theorem c_X6_isOrder_a (l : Launch) (G : eG) (ob a1 a2 a3 a4 a5 : Nat) (f th pa sn tx : Nat → Int32) (n len spot : Nat) (kp thr bad lt one two wh : Int32) (hash : Int64) (htx : Tx tx len) (hsp : spot ≤ len) (bd : Bool) (hL : lC (nn tx) len spot = 97) : Met l yX6_isOrder wsX6_isOrder ({ frames := 4, cells := 0, slots := 0, locals := 200 }) (PC [.ref ob] G (fun H => va_P G.1 vwCl [(ob, .inr (6, [.ref a1, .ref a2, .ref a3, .int (nI n), .ref a4, .int kp, .ref a5, .int (nI len), .int thr, .int (nI spot), .int (b2 (bd = true)), .int lt, .int one, .int two, .int wh, .long hash])), (a1, .inl (G.2.1, 97, .inl f)), (a2, .inl (G.2.1, 97, .inl th)), (a3, .inl (G.2.1, 582, .inl pa)), (a4, .inl (G.2.1, 97, .inl sn)), (a5, .inl (G.2.1, 60, .inl tx))] H ∧ va_D (fun _ => True) [(ob, .inr (6, [.ref a1, .ref a2, .ref a3, .int (nI n), .ref a4, .int kp, .ref a5, .int (nI len), .int thr, .int (nI spot), .int (b2 (bd = true)), .int lt, .int one, .int two, .int wh, .long hash])), (a1, .inl (G.2.1, 97, .inl f)), (a2, .inl (G.2.1, 97, .inl th)), (a3, .inl (G.2.1, 582, .inl pa)), (a4, .inl (G.2.1, 97, .inl sn)), (a5, .inl (G.2.1, 60, .inl tx))])) (MV (some (.int (b2 (aOk (nn tx) len spot = true)))) (fun H => va_P G.1 vwCl [(ob, .inr (6, [.ref a1, .ref a2, .ref a3, .int (nI n), .ref a4, .int kp, .ref a5, .int (nI len), .int thr, .int (nI (aS (nn tx) len spot)), .int (b2 (aB (nn tx) len spot bd = true)), .int (nI 97), .int (ov (aO1 (nn tx) len spot)), .int (aW2 (nn tx) len spot), .int wh, .long hash])), (a1, .inl (G.2.1, 97, .inl f)), (a2, .inl (G.2.1, 97, .inl th)), (a3, .inl (G.2.1, 582, .inl pa)), (a4, .inl (G.2.1, 97, .inl sn)), (a5, .inl (G.2.1, 60, .inl tx))] H ∧ va_D (inW [(ob, .inr (6, [.ref a1, .ref a2, .ref a3, .int (nI n), .ref a4, .int kp, .ref a5, .int (nI len), .int thr, .int (nI spot), .int (b2 (bd = true)), .int lt, .int one, .int two, .int wh, .long hash])), (a1, .inl (G.2.1, 97, .inl f)), (a2, .inl (G.2.1, 97, .inl th)), (a3, .inl (G.2.1, 582, .inl pa)), (a4, .inl (G.2.1, 97, .inl sn)), (a5, .inl (G.2.1, 60, .inl tx))]) [(ob, .inr (6, [.ref a1, .ref a2, .ref a3, .int (nI n), .ref a4, .int kp, .ref a5, .int (nI len), .int thr, .int (nI (aS (nn tx) len spot)), .int (b2 (aB (nn tx) len spot bd = true)), .int (nI 97), .int (ov (aO1 (nn tx) len spot)), .int (aW2 (nn tx) len spot), .int wh, .long hash])), (a1, .inl (G.2.1, 97, .inl f)), (a2, .inl (G.2.1, 97, .inl th)), (a3, .inl (G.2.1, 582, .inl pa)), (a4, .inl (G.2.1, 97, .inl sn)), (a5, .inl (G.2.1, 60, .inl tx))]) (inW [(ob, .inr (6, [.ref a1, .ref a2, .ref a3, .int (nI n), .ref a4, .int kp, .ref a5, .int (nI len), .int thr, .int (nI spot), .int (b2 (bd = true)), .int lt, .int one, .int two, .int wh, .long hash])), (a1, .inl (G.2.1, 97, .inl f)), (a2, .inl (G.2.1, 97, .inl th)), (a3, .inl (G.2.1, 582, .inl pa)), (a4, .inl (G.2.1, 97, .inl sn)), (a5, .inl (G.2.1, 60, .inl tx))])) 0 0 (inW [(ob, .inr (6, [.ref a1, .ref a2, .ref a3, .int (nI n), .ref a4, .int kp, .ref a5, .int (nI len), .int thr, .int (nI spot), .int (b2 (bd = true)), .int lt, .int one, .int two, .int wh, .long hash])), (a1, .inl (G.2.1, 97, .inl f)), (a2, .inl (G.2.1, 97, .inl th)), (a3, .inl (G.2.1, 582, .inl pa)), (a4, .inl (G.2.1, 97, .inl sn)), (a5, .inl (G.2.1, 60, .inl tx))]) := by
  refine ofB (cc := cX6_isOrder) (maxL := 2) (ret := (some .boolean)) (by decide) rfl (Nat.le_of_ble_eq_true rfl) ?_
  intro p e s m below meth c hx hb hr hlocks hml hown hin hts hE hI ls hl
  replace hown : s.vm.findClass RX6 = some m.cls := hown
  have hl : lv_has ls 2 [(0, .ref ob)] := hl
  obtain ⟨hP, hD0⟩ := hI
  have hD : va_D (inW [(ob, .inr (6, [.ref a1, .ref a2, .ref a3, .int (nI n), .ref a4, .int kp, .ref a5, .int (nI len), .int thr, .int (nI spot), .int (b2 (bd = true)), .int lt, .int one, .int two, .int wh, .long hash])), (a1, .inl (G.2.1, 97, .inl f)), (a2, .inl (G.2.1, 97, .inl th)), (a3, .inl (G.2.1, 582, .inl pa)), (a4, .inl (G.2.1, 97, .inl sn)), (a5, .inl (G.2.1, 60, .inl tx))]) [(ob, .inr (6, [.ref a1, .ref a2, .ref a3, .int (nI n), .ref a4, .int kp, .ref a5, .int (nI len), .int thr, .int (nI spot), .int (b2 (bd = true)), .int lt, .int one, .int two, .int wh, .long hash])), (a1, .inl (G.2.1, 97, .inl f)), (a2, .inl (G.2.1, 97, .inl th)), (a3, .inl (G.2.1, 582, .inl pa)), (a4, .inl (G.2.1, 97, .inl sn)), (a5, .inl (G.2.1, 60, .inl tx))] := D_self hD0
  obtain ⟨A, hAe⟩ : ∃ A, A = inW [(ob, .inr (6, [.ref a1, .ref a2, .ref a3, .int (nI n), .ref a4, .int kp, .ref a5, .int (nI len), .int thr, .int (nI spot), .int (b2 (bd = true)), .int lt, .int one, .int two, .int wh, .long hash])), (a1, .inl (G.2.1, 97, .inl f)), (a2, .inl (G.2.1, 97, .inl th)), (a3, .inl (G.2.1, 582, .inl pa)), (a4, .inl (G.2.1, 97, .inl sn)), (a5, .inl (G.2.1, 60, .inl tx))] := ⟨_, rfl⟩
  rw [← hAe] at hD ⊢
  have hS : va_S A s.heap s.heap [] := va_S.rf
  obtain ⟨H, hHe⟩ : ∃ H, H = s.heap := ⟨_, rfl⟩
  obtain ⟨locs, hle⟩ : ∃ q : List Loc, q = [] := ⟨_, rfl⟩
  rw [← hle] at hS ⊢
  have hP : va_P G.1 vwCl [(ob, .inr (6, [.ref a1, .ref a2, .ref a3, .int (nI n), .ref a4, .int kp, .ref a5, .int (nI len), .int thr, .int (nI spot), .int (b2 (bd = true)), .int lt, .int one, .int two, .int wh, .long hash])), (a1, .inl (G.2.1, 97, .inl f)), (a2, .inl (G.2.1, 97, .inl th)), (a3, .inl (G.2.1, 582, .inl pa)), (a4, .inl (G.2.1, 97, .inl sn)), (a5, .inl (G.2.1, 60, .inl tx))] H := by rw [hHe]; exact hP
  replace hS : va_S A s.heap H locs := by rw [hHe]; exact hS
  refine tH hHe ?_
  have w_0 : ∀ w ∈ u_ws RX6 TX6 16, w ∈ wsX6_isOrder := by decide +kernel
  have w_1 := hts (.fieldLink RX6 122 "CableFerryModel" "spot" "I") (by decide +kernel)
  have w_2 := hts (.fieldLink RX6 119 "CableFerryModel" "length" "I") (by decide +kernel)
  have w_3 := hts (.fieldLink RX6 22 "CableFerryModel" "text" "[I") (by decide +kernel)
  have w_4 := hts (.fieldLink RX6 136 "CableFerryModel" "letter" "I") (by decide +kernel)
  have w_5 := hts (.fieldLink RX6 139 "CableFerryModel" "one" "I") (by decide +kernel)
  have w_6 := hts (.fieldLink RX6 142 "CableFerryModel" "two" "I") (by decide +kernel)
  have hl60 := htx.1
  have hsl : spot < len := by unfold lC at hL; split at hL <;> omega
  have hLt : nn tx spot = 97 := by unfold lC at hL; rw [if_pos hsl] at hL; exact hL
  refine lv_aload_n hx hb dX6_isOrder_0 rfl (lv_at hl 0 rfl) ?_
  refine lv_aload_n hx hb dX6_isOrder_1 rfl (lv_at hl 0 rfl) ?_
  refine va_get (D := G.1) (ci := 6) (v := .int (nI spot)) (C := RX6) (T := TX6) (N := 16) hx hb hts w_0 hown hE.1 hP 0 rfl rfl 9 (by decide) w_1 (fun _ h9 => h9) rfl dX6_isOrder_2 ?_
  refine lv_aload_n hx hb dX6_isOrder_5 rfl (lv_at hl 0 rfl) ?_
  refine va_get (D := G.1) (ci := 6) (v := .int (nI len)) (C := RX6) (T := TX6) (N := 16) hx hb hts w_0 hown hE.1 hP 0 rfl rfl 7 (by decide) w_2 (fun _ h9 => h9) rfl dX6_isOrder_6 ?_
  refine icmp_geN (tgt := 24) hx hb (by omega) (by omega) dX6_isOrder_9 (by decide) (fun c9 => ?_) (fun c9 => ?_)
  · skip
    omega
  · skip
    refine lv_aload_n hx hb dX6_isOrder_12 rfl (lv_at hl 0 rfl) ?_
    refine va_get (D := G.1) (ci := 6) (v := .ref a5) (C := RX6) (T := TX6) (N := 16) hx hb hts w_0 hown hE.1 hP 0 rfl rfl 6 (by decide) w_3 (fun _ h9 => h9) rfl dX6_isOrder_13 ?_
    refine lv_aload_n hx hb dX6_isOrder_16 rfl (lv_at hl 0 rfl) ?_
    refine va_get (D := G.1) (ci := 6) (v := .int (nI spot)) (C := RX6) (T := TX6) (N := 16) hx hb hts w_0 hown hE.1 hP 0 rfl rfl 9 (by decide) w_1 (fun _ h9 => h9) rfl dX6_isOrder_17 ?_
    refine ialdN (k := spot) hx hb hE.1 hP 5 0 rfl rfl (by omega) (by decide) dX6_isOrder_20 ?_
    refine tI (y := nI 97) ((htx.2 _ hsl).1.trans (by rw [hLt])) ?_
    refine lv_goto (tgt := 25) hx hb dX6_isOrder_21 (by decide) ?_
    refine va_put (D := G.1) (ci := 6) (v := .int (nI 97)) (ty := .int) (C := RX6) (T := TX6) (N := 16) hx hb hts w_0 tyX6 tyX6_ok nmX6 hown hE.1 hP hD hS 0 rfl rfl 11 (by decide) w_4 (fun _ h9 => h9) rfl (by decide +kernel) rfl rfl (Nat.le_of_ble_eq_true rfl) dX6_isOrder_25 (fun H locs hP hD hS => ?_)
    have hP : va_P G.1 vwCl [(ob, .inr (6, [.ref a1, .ref a2, .ref a3, .int (nI n), .ref a4, .int kp, .ref a5, .int (nI len), .int thr, .int (nI spot), .int (b2 (bd = true)), .int (nI 97), .int one, .int two, .int wh, .long hash])), (a1, .inl (G.2.1, 97, .inl f)), (a2, .inl (G.2.1, 97, .inl th)), (a3, .inl (G.2.1, 582, .inl pa)), (a4, .inl (G.2.1, 97, .inl sn)), (a5, .inl (G.2.1, 60, .inl tx))] H := hP
    have hD : va_D A [(ob, .inr (6, [.ref a1, .ref a2, .ref a3, .int (nI n), .ref a4, .int kp, .ref a5, .int (nI len), .int thr, .int (nI spot), .int (b2 (bd = true)), .int (nI 97), .int one, .int two, .int wh, .long hash])), (a1, .inl (G.2.1, 97, .inl f)), (a2, .inl (G.2.1, 97, .inl th)), (a3, .inl (G.2.1, 582, .inl pa)), (a4, .inl (G.2.1, 97, .inl sn)), (a5, .inl (G.2.1, 60, .inl tx))] := hD
    refine lv_aload_n hx hb dX6_isOrder_28 rfl (lv_at hl 0 rfl) ?_
    refine va_get (D := G.1) (ci := 6) (v := .int (nI 97)) (C := RX6) (T := TX6) (N := 16) hx hb hts w_0 hown hE.1 hP 0 rfl rfl 11 (by decide) w_4 (fun _ h9 => h9) rfl dX6_isOrder_29 ?_
    refine lv_bipush (v := nI 97) hx hb dX6_isOrder_32 (by decide +kernel) ?_
    refine icmp_eqN (tgt := 82) hx hb (by omega) (by omega) dX6_isOrder_34 (by decide) (fun c34 => ?_) (fun c34 => ?_)
    · skip
      refine lv_iconst (v := nI 1) hx hb dX6_isOrder_82 (by decide +kernel) ?_
      refine lv_goto (tgt := 87) hx hb dX6_isOrder_83 (by decide) ?_
      refine lv_istore_n (lv' := [(1, .int (nI 1)), (0, .ref ob)]) hx hb dX6_isOrder_87 rfl hl (by decide) rfl (fun ls hl => ?_)
      refine lv_iload_n hx hb dX6_isOrder_88 rfl (lv_at hl 0 rfl) ?_
      refine lv_if_ne (tgt := 114) hx hb dX6_isOrder_89 (by decide) (fun c89 => ?_) (fun c89 => ?_)
      · skip
        refine lv_aload_n hx hb dX6_isOrder_114 rfl (lv_at hl 1 rfl) ?_
        refine lv_dup hx hb dX6_isOrder_115 rfl ?_
        refine va_get (D := G.1) (ci := 6) (v := .int (nI spot)) (C := RX6) (T := TX6) (N := 16) hx hb hts w_0 hown hE.1 hP 0 rfl rfl 9 (by decide) w_1 (fun _ h9 => h9) rfl dX6_isOrder_116 ?_
        refine lv_iconst (v := nI 1) hx hb dX6_isOrder_119 (by decide +kernel) ?_
        refine iaddN hx hb dX6_isOrder_120 ?_
        refine va_put (D := G.1) (ci := 6) (v := .int (nI (spot + 1))) (ty := .int) (C := RX6) (T := TX6) (N := 16) hx hb hts w_0 tyX6 tyX6_ok nmX6 hown hE.1 hP hD hS 0 rfl rfl 9 (by decide) w_1 (fun _ h9 => h9) rfl (by decide +kernel) rfl rfl (Nat.le_of_ble_eq_true rfl) dX6_isOrder_121 (fun H locs hP hD hS => ?_)
        have hP : va_P G.1 vwCl [(ob, .inr (6, [.ref a1, .ref a2, .ref a3, .int (nI n), .ref a4, .int kp, .ref a5, .int (nI len), .int thr, .int (nI (spot + 1)), .int (b2 (bd = true)), .int (nI 97), .int one, .int two, .int wh, .long hash])), (a1, .inl (G.2.1, 97, .inl f)), (a2, .inl (G.2.1, 97, .inl th)), (a3, .inl (G.2.1, 582, .inl pa)), (a4, .inl (G.2.1, 97, .inl sn)), (a5, .inl (G.2.1, 60, .inl tx))] H := hP
        have hD : va_D A [(ob, .inr (6, [.ref a1, .ref a2, .ref a3, .int (nI n), .ref a4, .int kp, .ref a5, .int (nI len), .int thr, .int (nI (spot + 1)), .int (b2 (bd = true)), .int (nI 97), .int one, .int two, .int wh, .long hash])), (a1, .inl (G.2.1, 97, .inl f)), (a2, .inl (G.2.1, 97, .inl th)), (a3, .inl (G.2.1, 582, .inl pa)), (a4, .inl (G.2.1, 97, .inl sn)), (a5, .inl (G.2.1, 60, .inl tx))] := hD
        refine lv_aload_n hx hb dX6_isOrder_124 rfl (lv_at hl 1 rfl) ?_
        refine lv_iconst (v := nI 0) hx hb dX6_isOrder_125 (by decide +kernel) ?_
        refine va_put (D := G.1) (ci := 6) (v := .int (nI 0)) (ty := .int) (C := RX6) (T := TX6) (N := 16) hx hb hts w_0 tyX6 tyX6_ok nmX6 hown hE.1 hP hD hS 0 rfl rfl 12 (by decide) w_5 (fun _ h9 => h9) rfl (by decide +kernel) rfl rfl (Nat.le_of_ble_eq_true rfl) dX6_isOrder_126 (fun H locs hP hD hS => ?_)
        have hP : va_P G.1 vwCl [(ob, .inr (6, [.ref a1, .ref a2, .ref a3, .int (nI n), .ref a4, .int kp, .ref a5, .int (nI len), .int thr, .int (nI (spot + 1)), .int (b2 (bd = true)), .int (nI 97), .int (nI 0), .int two, .int wh, .long hash])), (a1, .inl (G.2.1, 97, .inl f)), (a2, .inl (G.2.1, 97, .inl th)), (a3, .inl (G.2.1, 582, .inl pa)), (a4, .inl (G.2.1, 97, .inl sn)), (a5, .inl (G.2.1, 60, .inl tx))] H := hP
        have hD : va_D A [(ob, .inr (6, [.ref a1, .ref a2, .ref a3, .int (nI n), .ref a4, .int kp, .ref a5, .int (nI len), .int thr, .int (nI (spot + 1)), .int (b2 (bd = true)), .int (nI 97), .int (nI 0), .int two, .int wh, .long hash])), (a1, .inl (G.2.1, 97, .inl f)), (a2, .inl (G.2.1, 97, .inl th)), (a3, .inl (G.2.1, 582, .inl pa)), (a4, .inl (G.2.1, 97, .inl sn)), (a5, .inl (G.2.1, 60, .inl tx))] := hD
        refine lv_aload_n hx hb dX6_isOrder_129 rfl (lv_at hl 1 rfl) ?_
        refine lv_iconst (v := nI 0) hx hb dX6_isOrder_130 (by decide +kernel) ?_
        refine va_put (D := G.1) (ci := 6) (v := .int (nI 0)) (ty := .int) (C := RX6) (T := TX6) (N := 16) hx hb hts w_0 tyX6 tyX6_ok nmX6 hown hE.1 hP hD hS 0 rfl rfl 13 (by decide) w_6 (fun _ h9 => h9) rfl (by decide +kernel) rfl rfl (Nat.le_of_ble_eq_true rfl) dX6_isOrder_131 (fun H locs hP hD hS => ?_)
        have hP : va_P G.1 vwCl [(ob, .inr (6, [.ref a1, .ref a2, .ref a3, .int (nI n), .ref a4, .int kp, .ref a5, .int (nI len), .int thr, .int (nI (spot + 1)), .int (b2 (bd = true)), .int (nI 97), .int (nI 0), .int (nI 0), .int wh, .long hash])), (a1, .inl (G.2.1, 97, .inl f)), (a2, .inl (G.2.1, 97, .inl th)), (a3, .inl (G.2.1, 582, .inl pa)), (a4, .inl (G.2.1, 97, .inl sn)), (a5, .inl (G.2.1, 60, .inl tx))] H := hP
        have hD : va_D A [(ob, .inr (6, [.ref a1, .ref a2, .ref a3, .int (nI n), .ref a4, .int kp, .ref a5, .int (nI len), .int thr, .int (nI (spot + 1)), .int (b2 (bd = true)), .int (nI 97), .int (nI 0), .int (nI 0), .int wh, .long hash])), (a1, .inl (G.2.1, 97, .inl f)), (a2, .inl (G.2.1, 97, .inl th)), (a3, .inl (G.2.1, 582, .inl pa)), (a4, .inl (G.2.1, 97, .inl sn)), (a5, .inl (G.2.1, 60, .inl tx))] := hD
        refine lv_aload_n hx hb dX6_isOrder_134 rfl (lv_at hl 1 rfl) ?_
        refine va_get (D := G.1) (ci := 6) (v := .int (nI 97)) (C := RX6) (T := TX6) (N := 16) hx hb hts w_0 hown hE.1 hP 0 rfl rfl 11 (by decide) w_4 (fun _ h9 => h9) rfl dX6_isOrder_135 ?_
        refine lv_bipush (v := nI 97) hx hb dX6_isOrder_138 (by decide +kernel) ?_
        refine icmp_eqN (tgt := 152) hx hb (by omega) (by omega) dX6_isOrder_140 (by decide) (fun c140 => ?_) (fun c140 => ?_)
        · skip
          refine lv_aload_n hx hb dX6_isOrder_152 rfl (lv_at hl 1 rfl) ?_
          refine lv_aload_n hx hb dX6_isOrder_153 rfl (lv_at hl 1 rfl) ?_
          refine lv_bipush (v := nI 48) hx hb dX6_isOrder_154 (by decide +kernel) ?_
          refine lv_bipush (v := nI 49) hx hb dX6_isOrder_156 (by decide +kernel) ?_
          have hPc := hP.sub (ws' := [(ob, .inr (6, [.ref a1, .ref a2, .ref a3, .int (nI n), .ref a4, .int kp, .ref a5, .int (nI len), .int thr, .int (nI (spot + 1)), .int (b2 (bd = true)), .int (nI 97), .int (nI 0), .int (nI 0), .int wh, .long hash])), (a1, .inl (G.2.1, 97, .inl f)), (a2, .inl (G.2.1, 97, .inl th)), (a3, .inl (G.2.1, 582, .inl pa)), (a4, .inl (G.2.1, 97, .inl sn)), (a5, .inl (G.2.1, 60, .inl tx))]) [0, 1, 2, 3, 4, 5] rfl
          have hDc := hD.sub (ws' := [(ob, .inr (6, [.ref a1, .ref a2, .ref a3, .int (nI n), .ref a4, .int kp, .ref a5, .int (nI len), .int thr, .int (nI (spot + 1)), .int (b2 (bd = true)), .int (nI 97), .int (nI 0), .int (nI 0), .int wh, .long hash])), (a1, .inl (G.2.1, 97, .inl f)), (a2, .inl (G.2.1, 97, .inl th)), (a3, .inl (G.2.1, 582, .inl pa)), (a4, .inl (G.2.1, 97, .inl sn)), (a5, .inl (G.2.1, 60, .inl tx))]) [0, 1, 2, 3, 4, 5] (by decide) rfl
          refine mcall (st1 := [.int (ov (tk (nn tx) len (spot + 1) 48 49)), .ref ob]) (va_runV (As := [.int (nI 48), .int (nI 49)]) (rest := [.ref ob]) ⟨hx, hb, hml, hown, hts⟩ (c_X6_takes l G ob a1 a2 a3 a4 a5 f th pa sn tx n len (spot + 1) kp thr (b2 (bd = true)) (nI 97) (nI 0) (nI 0) wh hash htx (by omega) bd 48 49 (by first | omega | (unfold hiM; split <;> omega)) (by first | omega | (unfold hiM; split <;> omega))) (cwV 2 hts gX6_isOrder_X6_takes rfl rfl rfl (by decide +kernel) ⟨Nat.le_of_ble_eq_true rfl, Nat.le_of_ble_eq_true rfl⟩) (PC.preV hE (va_recv hE.1 hP (ci := 6) (q0 := 0) rfl rfl) ⟨hPc, hDc.weaken (fun _ _ _ _ => trivial)⟩) rfl rfl hl.1 rfl (lv_room (Nat.le_of_ble_eq_true rfl)) dX6_isOrder_158 ⟨Nat.zero_le _, Nat.zero_le _⟩) hS (fun q _ h => inW_D hDc q h) (fun q h => inW_D hDc q h) rfl (fun H1 locs1 hB hz1 hk1 hS => ?_)
          obtain ⟨hP1, hD1⟩ := hB
          obtain ⟨hP, hD⟩ := jnW (wr := []) (w1 := [(ob, .inr (6, [.ref a1, .ref a2, .ref a3, .int (nI n), .ref a4, .int kp, .ref a5, .int (nI len), .int thr, .int (nI (tkS (nn tx) len (spot + 1) 48 49)), .int (b2 (tkB (nn tx) len (spot + 1) 48 49 bd = true)), .int (nI 97), .int (nI 0), .int (nI 0), .int wh, .long hash])), (a1, .inl (G.2.1, 97, .inl f)), (a2, .inl (G.2.1, 97, .inl th)), (a3, .inl (G.2.1, 582, .inl pa)), (a4, .inl (G.2.1, 97, .inl sn)), (a5, .inl (G.2.1, 60, .inl tx))]) hP hD [0, 1, 2, 3, 4, 5] [] rfl rfl (by decide) (by decide) hk1 hP1 hD1
          generalize H1 = H at hP hS ⊢
          have hP : va_P G.1 vwCl [(ob, .inr (6, [.ref a1, .ref a2, .ref a3, .int (nI n), .ref a4, .int kp, .ref a5, .int (nI len), .int thr, .int (nI (tkS (nn tx) len (spot + 1) 48 49)), .int (b2 (tkB (nn tx) len (spot + 1) 48 49 bd = true)), .int (nI 97), .int (nI 0), .int (nI 0), .int wh, .long hash])), (a1, .inl (G.2.1, 97, .inl f)), (a2, .inl (G.2.1, 97, .inl th)), (a3, .inl (G.2.1, 582, .inl pa)), (a4, .inl (G.2.1, 97, .inl sn)), (a5, .inl (G.2.1, 60, .inl tx))] H := hP
          have hD : va_D A [(ob, .inr (6, [.ref a1, .ref a2, .ref a3, .int (nI n), .ref a4, .int kp, .ref a5, .int (nI len), .int thr, .int (nI (tkS (nn tx) len (spot + 1) 48 49)), .int (b2 (tkB (nn tx) len (spot + 1) 48 49 bd = true)), .int (nI 97), .int (nI 0), .int (nI 0), .int wh, .long hash])), (a1, .inl (G.2.1, 97, .inl f)), (a2, .inl (G.2.1, 97, .inl th)), (a3, .inl (G.2.1, 582, .inl pa)), (a4, .inl (G.2.1, 97, .inl sn)), (a5, .inl (G.2.1, 60, .inl tx))] := hD
          refine tI (y := ov (aO1 (nn tx) len spot)) (rfl) ?_
          have hP : va_P G.1 vwCl [(ob, .inr (6, [.ref a1, .ref a2, .ref a3, .int (nI n), .ref a4, .int kp, .ref a5, .int (nI len), .int thr, .int (nI (aS2 (nn tx) len spot)), .int (b2 (tkB (nn tx) len (spot + 1) 48 49 bd = true)), .int (nI 97), .int (nI 0), .int (nI 0), .int wh, .long hash])), (a1, .inl (G.2.1, 97, .inl f)), (a2, .inl (G.2.1, 97, .inl th)), (a3, .inl (G.2.1, 582, .inl pa)), (a4, .inl (G.2.1, 97, .inl sn)), (a5, .inl (G.2.1, 60, .inl tx))] H := hP
          have hD : va_D A [(ob, .inr (6, [.ref a1, .ref a2, .ref a3, .int (nI n), .ref a4, .int kp, .ref a5, .int (nI len), .int thr, .int (nI (aS2 (nn tx) len spot)), .int (b2 (tkB (nn tx) len (spot + 1) 48 49 bd = true)), .int (nI 97), .int (nI 0), .int (nI 0), .int wh, .long hash])), (a1, .inl (G.2.1, 97, .inl f)), (a2, .inl (G.2.1, 97, .inl th)), (a3, .inl (G.2.1, 582, .inl pa)), (a4, .inl (G.2.1, 97, .inl sn)), (a5, .inl (G.2.1, 60, .inl tx))] := hD
          refine va_put (D := G.1) (ci := 6) (v := .int (ov (aO1 (nn tx) len spot))) (ty := .int) (C := RX6) (T := TX6) (N := 16) hx hb hts w_0 tyX6 tyX6_ok nmX6 hown hE.1 hP hD hS 0 rfl rfl 12 (by decide) w_5 (fun _ h9 => h9) rfl (by decide +kernel) rfl rfl (Nat.le_of_ble_eq_true rfl) dX6_isOrder_161 (fun H locs hP hD hS => ?_)
          have hP : va_P G.1 vwCl [(ob, .inr (6, [.ref a1, .ref a2, .ref a3, .int (nI n), .ref a4, .int kp, .ref a5, .int (nI len), .int thr, .int (nI (aS2 (nn tx) len spot)), .int (b2 (tkB (nn tx) len (spot + 1) 48 49 bd = true)), .int (nI 97), .int (ov (aO1 (nn tx) len spot)), .int (nI 0), .int wh, .long hash])), (a1, .inl (G.2.1, 97, .inl f)), (a2, .inl (G.2.1, 97, .inl th)), (a3, .inl (G.2.1, 582, .inl pa)), (a4, .inl (G.2.1, 97, .inl sn)), (a5, .inl (G.2.1, 60, .inl tx))] H := hP
          have hD : va_D A [(ob, .inr (6, [.ref a1, .ref a2, .ref a3, .int (nI n), .ref a4, .int kp, .ref a5, .int (nI len), .int thr, .int (nI (aS2 (nn tx) len spot)), .int (b2 (tkB (nn tx) len (spot + 1) 48 49 bd = true)), .int (nI 97), .int (ov (aO1 (nn tx) len spot)), .int (nI 0), .int wh, .long hash])), (a1, .inl (G.2.1, 97, .inl f)), (a2, .inl (G.2.1, 97, .inl th)), (a3, .inl (G.2.1, 582, .inl pa)), (a4, .inl (G.2.1, 97, .inl sn)), (a5, .inl (G.2.1, 60, .inl tx))] := hD
          refine lv_aload_n hx hb dX6_isOrder_164 rfl (lv_at hl 1 rfl) ?_
          refine va_get (D := G.1) (ci := 6) (v := .int (nI 97)) (C := RX6) (T := TX6) (N := 16) hx hb hts w_0 hown hE.1 hP 0 rfl rfl 11 (by decide) w_4 (fun _ h9 => h9) rfl dX6_isOrder_165 ?_
          refine lv_bipush (v := nI 97) hx hb dX6_isOrder_168 (by decide +kernel) ?_
          refine icmp_neN (tgt := 207) hx hb (by omega) (by omega) dX6_isOrder_170 (by decide) (fun c170 => ?_) (fun c170 => ?_)
          · skip
            omega
          · skip
            refine lv_aload_n hx hb dX6_isOrder_173 rfl (lv_at hl 1 rfl) ?_
            refine lv_aload_n hx hb dX6_isOrder_174 rfl (lv_at hl 1 rfl) ?_
            refine va_get (D := G.1) (ci := 6) (v := .int (ov (aO1 (nn tx) len spot))) (C := RX6) (T := TX6) (N := 16) hx hb hts w_0 hown hE.1 hP 0 rfl rfl 12 (by decide) w_5 (fun _ h9 => h9) rfl dX6_isOrder_175 ?_
            refine lv_iconst (v := -1) hx hb dX6_isOrder_178 (by decide +kernel) ?_
            refine lv_icmp_eq (tgt := 194) hx hb dX6_isOrder_179 (by decide) (fun c179 => ?_) (fun c179 => ?_)
            · skip
              rw [ov_m1 (fun v h => by have := tk_lt (by first | omega | (unfold hiM; split <;> omega)) v h; omega)] at c179
              refine lv_iconst (v := -1) hx hb dX6_isOrder_194 (by decide +kernel) ?_
              refine lv_goto (tgt := 204) hx hb dX6_isOrder_195 (by decide) ?_
              refine va_put (D := G.1) (ci := 6) (v := .int (-1)) (ty := .int) (C := RX6) (T := TX6) (N := 16) hx hb hts w_0 tyX6 tyX6_ok nmX6 hown hE.1 hP hD hS 0 rfl rfl 13 (by decide) w_6 (fun _ h9 => h9) rfl (by decide +kernel) rfl rfl (Nat.le_of_ble_eq_true rfl) dX6_isOrder_204 (fun H locs hP hD hS => ?_)
              have hP : va_P G.1 vwCl [(ob, .inr (6, [.ref a1, .ref a2, .ref a3, .int (nI n), .ref a4, .int kp, .ref a5, .int (nI len), .int thr, .int (nI (aS2 (nn tx) len spot)), .int (b2 (tkB (nn tx) len (spot + 1) 48 49 bd = true)), .int (nI 97), .int (ov (aO1 (nn tx) len spot)), .int (-1), .int wh, .long hash])), (a1, .inl (G.2.1, 97, .inl f)), (a2, .inl (G.2.1, 97, .inl th)), (a3, .inl (G.2.1, 582, .inl pa)), (a4, .inl (G.2.1, 97, .inl sn)), (a5, .inl (G.2.1, 60, .inl tx))] H := hP
              have hD : va_D A [(ob, .inr (6, [.ref a1, .ref a2, .ref a3, .int (nI n), .ref a4, .int kp, .ref a5, .int (nI len), .int thr, .int (nI (aS2 (nn tx) len spot)), .int (b2 (tkB (nn tx) len (spot + 1) 48 49 bd = true)), .int (nI 97), .int (ov (aO1 (nn tx) len spot)), .int (-1), .int wh, .long hash])), (a1, .inl (G.2.1, 97, .inl f)), (a2, .inl (G.2.1, 97, .inl th)), (a3, .inl (G.2.1, 582, .inl pa)), (a4, .inl (G.2.1, 97, .inl sn)), (a5, .inl (G.2.1, 60, .inl tx))] := hD
              refine lv_aload_n hx hb dX6_isOrder_207 rfl (lv_at hl 1 rfl) ?_
              refine va_get (D := G.1) (ci := 6) (v := .int (nI 97)) (C := RX6) (T := TX6) (N := 16) hx hb hts w_0 hown hE.1 hP 0 rfl rfl 11 (by decide) w_4 (fun _ h9 => h9) rfl dX6_isOrder_208 ?_
              refine lv_bipush (v := nI 119) hx hb dX6_isOrder_211 (by decide +kernel) ?_
              refine icmp_eqN (tgt := 225) hx hb (by omega) (by omega) dX6_isOrder_213 (by decide) (fun c213 => ?_) (fun c213 => ?_)
              · skip
                omega
              · skip
                refine lv_aload_n hx hb dX6_isOrder_216 rfl (lv_at hl 1 rfl) ?_
                refine va_get (D := G.1) (ci := 6) (v := .int (nI 97)) (C := RX6) (T := TX6) (N := 16) hx hb hts w_0 hown hE.1 hP 0 rfl rfl 11 (by decide) w_4 (fun _ h9 => h9) rfl dX6_isOrder_217 ?_
                refine lv_bipush (v := nI 100) hx hb dX6_isOrder_220 (by decide +kernel) ?_
                refine icmp_neN (tgt := 248) hx hb (by omega) (by omega) dX6_isOrder_222 (by decide) (fun c222 => ?_) (fun c222 => ?_)
                · skip
                  refine lv_aload_n hx hb dX6_isOrder_248 rfl (lv_at hl 1 rfl) ?_
                  refine va_get (D := G.1) (ci := 6) (v := .int (ov (aO1 (nn tx) len spot))) (C := RX6) (T := TX6) (N := 16) hx hb hts w_0 hown hE.1 hP 0 rfl rfl 12 (by decide) w_5 (fun _ h9 => h9) rfl dX6_isOrder_249 ?_
                  refine lv_iconst (v := -1) hx hb dX6_isOrder_252 (by decide +kernel) ?_
                  refine lv_icmp_eq (tgt := 268) hx hb dX6_isOrder_253 (by decide) (fun c253 => ?_) (fun c253 => ?_)
                  · skip
                    refine lv_iconst (v := nI 0) hx hb dX6_isOrder_268 (by decide +kernel) ?_
                    refine tS (st' := [.int (b2 (aOk (nn tx) len spot = true))]) (congrArg (fun z => [Value.int z]) (by simp [b2, aOk, isSome_iff, c179])) ?_
                    exact W.zret hx hb hr (b2_z _) (fun t ht hW => ⟨rfl, by rw [ht]; exact (by unfold aS aB aW2; rw [if_pos c179, if_pos c179, if_pos c179]; exact ⟨hP, hD⟩), hS.F ht⟩) hS.2.2 dX6_isOrder_269
                  · skip
                    exact absurd ((ov_m1 (fun v h => by have := tk_lt (by first | omega | (unfold hiM; split <;> omega)) v h; omega)).mpr c179) c253
                · skip
                  omega
            · skip
              rw [ov_m1 (fun v h => by have := tk_lt (by first | omega | (unfold hiM; split <;> omega)) v h; omega)] at c179
              refine lv_aload_n hx hb dX6_isOrder_182 rfl (lv_at hl 1 rfl) ?_
              refine lv_bipush (v := nI 58) hx hb dX6_isOrder_183 (by decide +kernel) ?_
              refine lv_bipush (v := nI 58) hx hb dX6_isOrder_185 (by decide +kernel) ?_
              have hPc := hP.sub (ws' := [(ob, .inr (6, [.ref a1, .ref a2, .ref a3, .int (nI n), .ref a4, .int kp, .ref a5, .int (nI len), .int thr, .int (nI (aS2 (nn tx) len spot)), .int (b2 (tkB (nn tx) len (spot + 1) 48 49 bd = true)), .int (nI 97), .int (ov (aO1 (nn tx) len spot)), .int (nI 0), .int wh, .long hash])), (a1, .inl (G.2.1, 97, .inl f)), (a2, .inl (G.2.1, 97, .inl th)), (a3, .inl (G.2.1, 582, .inl pa)), (a4, .inl (G.2.1, 97, .inl sn)), (a5, .inl (G.2.1, 60, .inl tx))]) [0, 1, 2, 3, 4, 5] rfl
              have hDc := hD.sub (ws' := [(ob, .inr (6, [.ref a1, .ref a2, .ref a3, .int (nI n), .ref a4, .int kp, .ref a5, .int (nI len), .int thr, .int (nI (aS2 (nn tx) len spot)), .int (b2 (tkB (nn tx) len (spot + 1) 48 49 bd = true)), .int (nI 97), .int (ov (aO1 (nn tx) len spot)), .int (nI 0), .int wh, .long hash])), (a1, .inl (G.2.1, 97, .inl f)), (a2, .inl (G.2.1, 97, .inl th)), (a3, .inl (G.2.1, 582, .inl pa)), (a4, .inl (G.2.1, 97, .inl sn)), (a5, .inl (G.2.1, 60, .inl tx))]) [0, 1, 2, 3, 4, 5] (by decide) rfl
              refine mcall (st1 := [.int (ov (tk (nn tx) len (aS2 (nn tx) len spot) 58 58)), .ref ob]) (va_runV (As := [.int (nI 58), .int (nI 58)]) (rest := [.ref ob]) ⟨hx, hb, hml, hown, hts⟩ (c_X6_takes l G ob a1 a2 a3 a4 a5 f th pa sn tx n len (aS2 (nn tx) len spot) kp thr (b2 (tkB (nn tx) len (spot + 1) 48 49 bd = true)) (nI 97) (ov (aO1 (nn tx) len spot)) (nI 0) wh hash htx ((tkS_le (by omega)).2) (tkB (nn tx) len (spot + 1) 48 49 bd) 58 58 (by first | omega | (unfold hiM; split <;> omega)) (by first | omega | (unfold hiM; split <;> omega))) (cwV 2 hts gX6_isOrder_X6_takes rfl rfl rfl (by decide +kernel) ⟨Nat.le_of_ble_eq_true rfl, Nat.le_of_ble_eq_true rfl⟩) (PC.preV hE (va_recv hE.1 hP (ci := 6) (q0 := 0) rfl rfl) ⟨hPc, hDc.weaken (fun _ _ _ _ => trivial)⟩) rfl rfl hl.1 rfl (lv_room (Nat.le_of_ble_eq_true rfl)) dX6_isOrder_187 ⟨Nat.zero_le _, Nat.zero_le _⟩) hS (fun q _ h => inW_D hDc q h) (fun q h => inW_D hDc q h) rfl (fun H1 locs1 hB hz1 hk1 hS => ?_)
              obtain ⟨hP1, hD1⟩ := hB
              obtain ⟨hP, hD⟩ := jnW (wr := []) (w1 := [(ob, .inr (6, [.ref a1, .ref a2, .ref a3, .int (nI n), .ref a4, .int kp, .ref a5, .int (nI len), .int thr, .int (nI (tkS (nn tx) len (aS2 (nn tx) len spot) 58 58)), .int (b2 (tkB (nn tx) len (aS2 (nn tx) len spot) 58 58 (tkB (nn tx) len (spot + 1) 48 49 bd) = true)), .int (nI 97), .int (ov (aO1 (nn tx) len spot)), .int (nI 0), .int wh, .long hash])), (a1, .inl (G.2.1, 97, .inl f)), (a2, .inl (G.2.1, 97, .inl th)), (a3, .inl (G.2.1, 582, .inl pa)), (a4, .inl (G.2.1, 97, .inl sn)), (a5, .inl (G.2.1, 60, .inl tx))]) hP hD [0, 1, 2, 3, 4, 5] [] rfl rfl (by decide) (by decide) hk1 hP1 hD1
              generalize H1 = H at hP hS ⊢
              have hP : va_P G.1 vwCl [(ob, .inr (6, [.ref a1, .ref a2, .ref a3, .int (nI n), .ref a4, .int kp, .ref a5, .int (nI len), .int thr, .int (nI (tkS (nn tx) len (aS2 (nn tx) len spot) 58 58)), .int (b2 (tkB (nn tx) len (aS2 (nn tx) len spot) 58 58 (tkB (nn tx) len (spot + 1) 48 49 bd) = true)), .int (nI 97), .int (ov (aO1 (nn tx) len spot)), .int (nI 0), .int wh, .long hash])), (a1, .inl (G.2.1, 97, .inl f)), (a2, .inl (G.2.1, 97, .inl th)), (a3, .inl (G.2.1, 582, .inl pa)), (a4, .inl (G.2.1, 97, .inl sn)), (a5, .inl (G.2.1, 60, .inl tx))] H := hP
              have hD : va_D A [(ob, .inr (6, [.ref a1, .ref a2, .ref a3, .int (nI n), .ref a4, .int kp, .ref a5, .int (nI len), .int thr, .int (nI (tkS (nn tx) len (aS2 (nn tx) len spot) 58 58)), .int (b2 (tkB (nn tx) len (aS2 (nn tx) len spot) 58 58 (tkB (nn tx) len (spot + 1) 48 49 bd) = true)), .int (nI 97), .int (ov (aO1 (nn tx) len spot)), .int (nI 0), .int wh, .long hash])), (a1, .inl (G.2.1, 97, .inl f)), (a2, .inl (G.2.1, 97, .inl th)), (a3, .inl (G.2.1, 582, .inl pa)), (a4, .inl (G.2.1, 97, .inl sn)), (a5, .inl (G.2.1, 60, .inl tx))] := hD
              refine tI (y := ov (aO2 (nn tx) len spot)) (rfl) ?_
              have hP : va_P G.1 vwCl [(ob, .inr (6, [.ref a1, .ref a2, .ref a3, .int (nI n), .ref a4, .int kp, .ref a5, .int (nI len), .int thr, .int (nI (aS3 (nn tx) len spot)), .int (b2 (tkB (nn tx) len (aS2 (nn tx) len spot) 58 58 (tkB (nn tx) len (spot + 1) 48 49 bd) = true)), .int (nI 97), .int (ov (aO1 (nn tx) len spot)), .int (nI 0), .int wh, .long hash])), (a1, .inl (G.2.1, 97, .inl f)), (a2, .inl (G.2.1, 97, .inl th)), (a3, .inl (G.2.1, 582, .inl pa)), (a4, .inl (G.2.1, 97, .inl sn)), (a5, .inl (G.2.1, 60, .inl tx))] H := hP
              have hD : va_D A [(ob, .inr (6, [.ref a1, .ref a2, .ref a3, .int (nI n), .ref a4, .int kp, .ref a5, .int (nI len), .int thr, .int (nI (aS3 (nn tx) len spot)), .int (b2 (tkB (nn tx) len (aS2 (nn tx) len spot) 58 58 (tkB (nn tx) len (spot + 1) 48 49 bd) = true)), .int (nI 97), .int (ov (aO1 (nn tx) len spot)), .int (nI 0), .int wh, .long hash])), (a1, .inl (G.2.1, 97, .inl f)), (a2, .inl (G.2.1, 97, .inl th)), (a3, .inl (G.2.1, 582, .inl pa)), (a4, .inl (G.2.1, 97, .inl sn)), (a5, .inl (G.2.1, 60, .inl tx))] := hD
              refine lv_iconst (v := -1) hx hb dX6_isOrder_190 (by decide +kernel) ?_
              refine lv_icmp_ne (tgt := 198) hx hb dX6_isOrder_191 (by decide) (fun c191 => ?_) (fun c191 => ?_)
              · skip
                rw [ov_m1 (fun v h => by have := tk_lt (by first | omega | (unfold hiM; split <;> omega)) v h; omega)] at c191
                refine lv_aload_n hx hb dX6_isOrder_198 rfl (lv_at hl 1 rfl) ?_
                refine lv_bipush (v := nI 20) hx hb dX6_isOrder_199 (by decide +kernel) ?_
                have hPc := hP.sub (ws' := [(ob, .inr (6, [.ref a1, .ref a2, .ref a3, .int (nI n), .ref a4, .int kp, .ref a5, .int (nI len), .int thr, .int (nI (aS3 (nn tx) len spot)), .int (b2 (tkB (nn tx) len (aS2 (nn tx) len spot) 58 58 (tkB (nn tx) len (spot + 1) 48 49 bd) = true)), .int (nI 97), .int (ov (aO1 (nn tx) len spot)), .int (nI 0), .int wh, .long hash])), (a1, .inl (G.2.1, 97, .inl f)), (a2, .inl (G.2.1, 97, .inl th)), (a3, .inl (G.2.1, 582, .inl pa)), (a4, .inl (G.2.1, 97, .inl sn)), (a5, .inl (G.2.1, 60, .inl tx))]) [0, 1, 2, 3, 4, 5] rfl
                have hDc := hD.sub (ws' := [(ob, .inr (6, [.ref a1, .ref a2, .ref a3, .int (nI n), .ref a4, .int kp, .ref a5, .int (nI len), .int thr, .int (nI (aS3 (nn tx) len spot)), .int (b2 (tkB (nn tx) len (aS2 (nn tx) len spot) 58 58 (tkB (nn tx) len (spot + 1) 48 49 bd) = true)), .int (nI 97), .int (ov (aO1 (nn tx) len spot)), .int (nI 0), .int wh, .long hash])), (a1, .inl (G.2.1, 97, .inl f)), (a2, .inl (G.2.1, 97, .inl th)), (a3, .inl (G.2.1, 582, .inl pa)), (a4, .inl (G.2.1, 97, .inl sn)), (a5, .inl (G.2.1, 60, .inl tx))]) [0, 1, 2, 3, 4, 5] (by decide) rfl
                refine mcall (st1 := [.int (ov (nb (nn tx) len (aS3 (nn tx) len spot) 20)), .ref ob]) (va_runV (As := [.int (nI 20)]) (rest := [.ref ob]) ⟨hx, hb, hml, hown, hts⟩ (c_X6_number l G ob a1 a2 a3 a4 a5 f th pa sn tx n len (aS3 (nn tx) len spot) kp thr (b2 (tkB (nn tx) len (aS2 (nn tx) len spot) 58 58 (tkB (nn tx) len (spot + 1) 48 49 bd) = true)) (nI 97) (ov (aO1 (nn tx) len spot)) (nI 0) wh hash htx ((tkS_le (tkS_le (by omega)).2).2) (tkB (nn tx) len (aS2 (nn tx) len spot) 58 58 (tkB (nn tx) len (spot + 1) 48 49 bd)) 20 (by omega)) (cwV 1 hts gX6_isOrder_X6_number rfl rfl rfl (by decide +kernel) ⟨Nat.le_of_ble_eq_true rfl, Nat.le_of_ble_eq_true rfl⟩) (PC.preV hE (va_recv hE.1 hP (ci := 6) (q0 := 0) rfl rfl) ⟨hPc, hDc.weaken (fun _ _ _ _ => trivial)⟩) rfl rfl hl.1 rfl (lv_room (Nat.le_of_ble_eq_true rfl)) dX6_isOrder_201 ⟨Nat.zero_le _, Nat.zero_le _⟩) hS (fun q _ h => inW_D hDc q h) (fun q h => inW_D hDc q h) rfl (fun H1 locs1 hB hz1 hk1 hS => ?_)
                obtain ⟨hP1, hD1⟩ := hB
                obtain ⟨hP, hD⟩ := jnW (wr := []) (w1 := [(ob, .inr (6, [.ref a1, .ref a2, .ref a3, .int (nI n), .ref a4, .int kp, .ref a5, .int (nI len), .int thr, .int (nI (nbS (nn tx) len (aS3 (nn tx) len spot) 20)), .int (b2 (nbB (nn tx) len (aS3 (nn tx) len spot) 20 (tkB (nn tx) len (aS2 (nn tx) len spot) 58 58 (tkB (nn tx) len (spot + 1) 48 49 bd)) = true)), .int (nI 97), .int (ov (aO1 (nn tx) len spot)), .int (nI 0), .int wh, .long hash])), (a1, .inl (G.2.1, 97, .inl f)), (a2, .inl (G.2.1, 97, .inl th)), (a3, .inl (G.2.1, 582, .inl pa)), (a4, .inl (G.2.1, 97, .inl sn)), (a5, .inl (G.2.1, 60, .inl tx))]) hP hD [0, 1, 2, 3, 4, 5] [] rfl rfl (by decide) (by decide) hk1 hP1 hD1
                generalize H1 = H at hP hS ⊢
                have hP : va_P G.1 vwCl [(ob, .inr (6, [.ref a1, .ref a2, .ref a3, .int (nI n), .ref a4, .int kp, .ref a5, .int (nI len), .int thr, .int (nI (nbS (nn tx) len (aS3 (nn tx) len spot) 20)), .int (b2 (nbB (nn tx) len (aS3 (nn tx) len spot) 20 (tkB (nn tx) len (aS2 (nn tx) len spot) 58 58 (tkB (nn tx) len (spot + 1) 48 49 bd)) = true)), .int (nI 97), .int (ov (aO1 (nn tx) len spot)), .int (nI 0), .int wh, .long hash])), (a1, .inl (G.2.1, 97, .inl f)), (a2, .inl (G.2.1, 97, .inl th)), (a3, .inl (G.2.1, 582, .inl pa)), (a4, .inl (G.2.1, 97, .inl sn)), (a5, .inl (G.2.1, 60, .inl tx))] H := hP
                have hD : va_D A [(ob, .inr (6, [.ref a1, .ref a2, .ref a3, .int (nI n), .ref a4, .int kp, .ref a5, .int (nI len), .int thr, .int (nI (nbS (nn tx) len (aS3 (nn tx) len spot) 20)), .int (b2 (nbB (nn tx) len (aS3 (nn tx) len spot) 20 (tkB (nn tx) len (aS2 (nn tx) len spot) 58 58 (tkB (nn tx) len (spot + 1) 48 49 bd)) = true)), .int (nI 97), .int (ov (aO1 (nn tx) len spot)), .int (nI 0), .int wh, .long hash])), (a1, .inl (G.2.1, 97, .inl f)), (a2, .inl (G.2.1, 97, .inl th)), (a3, .inl (G.2.1, 582, .inl pa)), (a4, .inl (G.2.1, 97, .inl sn)), (a5, .inl (G.2.1, 60, .inl tx))] := hD
                refine tI (y := ov (aO3 (nn tx) len spot)) (rfl) ?_
                refine va_put (D := G.1) (ci := 6) (v := .int (ov (aO3 (nn tx) len spot))) (ty := .int) (C := RX6) (T := TX6) (N := 16) hx hb hts w_0 tyX6 tyX6_ok nmX6 hown hE.1 hP hD hS 0 rfl rfl 13 (by decide) w_6 (fun _ h9 => h9) rfl (by decide +kernel) rfl rfl (Nat.le_of_ble_eq_true rfl) dX6_isOrder_204 (fun H locs hP hD hS => ?_)
                have hP : va_P G.1 vwCl [(ob, .inr (6, [.ref a1, .ref a2, .ref a3, .int (nI n), .ref a4, .int kp, .ref a5, .int (nI len), .int thr, .int (nI (nbS (nn tx) len (aS3 (nn tx) len spot) 20)), .int (b2 (nbB (nn tx) len (aS3 (nn tx) len spot) 20 (tkB (nn tx) len (aS2 (nn tx) len spot) 58 58 (tkB (nn tx) len (spot + 1) 48 49 bd)) = true)), .int (nI 97), .int (ov (aO1 (nn tx) len spot)), .int (ov (aO3 (nn tx) len spot)), .int wh, .long hash])), (a1, .inl (G.2.1, 97, .inl f)), (a2, .inl (G.2.1, 97, .inl th)), (a3, .inl (G.2.1, 582, .inl pa)), (a4, .inl (G.2.1, 97, .inl sn)), (a5, .inl (G.2.1, 60, .inl tx))] H := hP
                have hD : va_D A [(ob, .inr (6, [.ref a1, .ref a2, .ref a3, .int (nI n), .ref a4, .int kp, .ref a5, .int (nI len), .int thr, .int (nI (nbS (nn tx) len (aS3 (nn tx) len spot) 20)), .int (b2 (nbB (nn tx) len (aS3 (nn tx) len spot) 20 (tkB (nn tx) len (aS2 (nn tx) len spot) 58 58 (tkB (nn tx) len (spot + 1) 48 49 bd)) = true)), .int (nI 97), .int (ov (aO1 (nn tx) len spot)), .int (ov (aO3 (nn tx) len spot)), .int wh, .long hash])), (a1, .inl (G.2.1, 97, .inl f)), (a2, .inl (G.2.1, 97, .inl th)), (a3, .inl (G.2.1, 582, .inl pa)), (a4, .inl (G.2.1, 97, .inl sn)), (a5, .inl (G.2.1, 60, .inl tx))] := hD
                refine lv_aload_n hx hb dX6_isOrder_207 rfl (lv_at hl 1 rfl) ?_
                refine va_get (D := G.1) (ci := 6) (v := .int (nI 97)) (C := RX6) (T := TX6) (N := 16) hx hb hts w_0 hown hE.1 hP 0 rfl rfl 11 (by decide) w_4 (fun _ h9 => h9) rfl dX6_isOrder_208 ?_
                refine lv_bipush (v := nI 119) hx hb dX6_isOrder_211 (by decide +kernel) ?_
                refine icmp_eqN (tgt := 225) hx hb (by omega) (by omega) dX6_isOrder_213 (by decide) (fun c213 => ?_) (fun c213 => ?_)
                · skip
                  omega
                · skip
                  refine lv_aload_n hx hb dX6_isOrder_216 rfl (lv_at hl 1 rfl) ?_
                  refine va_get (D := G.1) (ci := 6) (v := .int (nI 97)) (C := RX6) (T := TX6) (N := 16) hx hb hts w_0 hown hE.1 hP 0 rfl rfl 11 (by decide) w_4 (fun _ h9 => h9) rfl dX6_isOrder_217 ?_
                  refine lv_bipush (v := nI 100) hx hb dX6_isOrder_220 (by decide +kernel) ?_
                  refine icmp_neN (tgt := 248) hx hb (by omega) (by omega) dX6_isOrder_222 (by decide) (fun c222 => ?_) (fun c222 => ?_)
                  · skip
                    refine lv_aload_n hx hb dX6_isOrder_248 rfl (lv_at hl 1 rfl) ?_
                    refine va_get (D := G.1) (ci := 6) (v := .int (ov (aO1 (nn tx) len spot))) (C := RX6) (T := TX6) (N := 16) hx hb hts w_0 hown hE.1 hP 0 rfl rfl 12 (by decide) w_5 (fun _ h9 => h9) rfl dX6_isOrder_249 ?_
                    refine lv_iconst (v := -1) hx hb dX6_isOrder_252 (by decide +kernel) ?_
                    refine lv_icmp_eq (tgt := 268) hx hb dX6_isOrder_253 (by decide) (fun c253 => ?_) (fun c253 => ?_)
                    · skip
                      exact absurd ((ov_m1 (fun v h => by have := tk_lt (by first | omega | (unfold hiM; split <;> omega)) v h; omega)).mp c253) c179
                    · skip
                      refine lv_aload_n hx hb dX6_isOrder_256 rfl (lv_at hl 1 rfl) ?_
                      refine va_get (D := G.1) (ci := 6) (v := .int (ov (aO3 (nn tx) len spot))) (C := RX6) (T := TX6) (N := 16) hx hb hts w_0 hown hE.1 hP 0 rfl rfl 13 (by decide) w_6 (fun _ h9 => h9) rfl dX6_isOrder_257 ?_
                      refine lv_iconst (v := -1) hx hb dX6_isOrder_260 (by decide +kernel) ?_
                      refine lv_icmp_eq (tgt := 268) hx hb dX6_isOrder_261 (by decide) (fun c261 => ?_) (fun c261 => ?_)
                      · skip
                        rw [ov_m1 (fun v h => by have := nb_lt (by omega) v h; omega)] at c261
                        refine lv_iconst (v := nI 0) hx hb dX6_isOrder_268 (by decide +kernel) ?_
                        refine tS (st' := [.int (b2 (aOk (nn tx) len spot = true))]) (congrArg (fun z => [Value.int z]) (by simp [b2, aOk, isSome_iff, c179, c191, c261])) ?_
                        exact W.zret hx hb hr (b2_z _) (fun t ht hW => ⟨rfl, by rw [ht]; exact (by unfold aS aB aW2; rw [if_neg c179, if_neg c179, if_neg c179, if_neg c191, if_neg c191, if_neg c191]; exact ⟨hP, hD⟩), hS.F ht⟩) hS.2.2 dX6_isOrder_269
                      · skip
                        rw [ov_m1 (fun v h => by have := nb_lt (by omega) v h; omega)] at c261
                        refine lv_iconst (v := nI 1) hx hb dX6_isOrder_264 (by decide +kernel) ?_
                        refine lv_goto (tgt := 269) hx hb dX6_isOrder_265 (by decide) ?_
                        refine tS (st' := [.int (b2 (aOk (nn tx) len spot = true))]) (congrArg (fun z => [Value.int z]) (by simp [b2, aOk, isSome_iff, c179, c191, c261])) ?_
                        exact W.zret hx hb hr (b2_z _) (fun t ht hW => ⟨rfl, by rw [ht]; exact (by unfold aS aB aW2; rw [if_neg c179, if_neg c179, if_neg c179, if_neg c191, if_neg c191, if_neg c191]; exact ⟨hP, hD⟩), hS.F ht⟩) hS.2.2 dX6_isOrder_269
                  · skip
                    omega
              · skip
                rw [ov_m1 (fun v h => by have := tk_lt (by first | omega | (unfold hiM; split <;> omega)) v h; omega)] at c191
                refine lv_iconst (v := -1) hx hb dX6_isOrder_194 (by decide +kernel) ?_
                refine lv_goto (tgt := 204) hx hb dX6_isOrder_195 (by decide) ?_
                refine va_put (D := G.1) (ci := 6) (v := .int (-1)) (ty := .int) (C := RX6) (T := TX6) (N := 16) hx hb hts w_0 tyX6 tyX6_ok nmX6 hown hE.1 hP hD hS 0 rfl rfl 13 (by decide) w_6 (fun _ h9 => h9) rfl (by decide +kernel) rfl rfl (Nat.le_of_ble_eq_true rfl) dX6_isOrder_204 (fun H locs hP hD hS => ?_)
                have hP : va_P G.1 vwCl [(ob, .inr (6, [.ref a1, .ref a2, .ref a3, .int (nI n), .ref a4, .int kp, .ref a5, .int (nI len), .int thr, .int (nI (aS3 (nn tx) len spot)), .int (b2 (tkB (nn tx) len (aS2 (nn tx) len spot) 58 58 (tkB (nn tx) len (spot + 1) 48 49 bd) = true)), .int (nI 97), .int (ov (aO1 (nn tx) len spot)), .int (-1), .int wh, .long hash])), (a1, .inl (G.2.1, 97, .inl f)), (a2, .inl (G.2.1, 97, .inl th)), (a3, .inl (G.2.1, 582, .inl pa)), (a4, .inl (G.2.1, 97, .inl sn)), (a5, .inl (G.2.1, 60, .inl tx))] H := hP
                have hD : va_D A [(ob, .inr (6, [.ref a1, .ref a2, .ref a3, .int (nI n), .ref a4, .int kp, .ref a5, .int (nI len), .int thr, .int (nI (aS3 (nn tx) len spot)), .int (b2 (tkB (nn tx) len (aS2 (nn tx) len spot) 58 58 (tkB (nn tx) len (spot + 1) 48 49 bd) = true)), .int (nI 97), .int (ov (aO1 (nn tx) len spot)), .int (-1), .int wh, .long hash])), (a1, .inl (G.2.1, 97, .inl f)), (a2, .inl (G.2.1, 97, .inl th)), (a3, .inl (G.2.1, 582, .inl pa)), (a4, .inl (G.2.1, 97, .inl sn)), (a5, .inl (G.2.1, 60, .inl tx))] := hD
                refine lv_aload_n hx hb dX6_isOrder_207 rfl (lv_at hl 1 rfl) ?_
                refine va_get (D := G.1) (ci := 6) (v := .int (nI 97)) (C := RX6) (T := TX6) (N := 16) hx hb hts w_0 hown hE.1 hP 0 rfl rfl 11 (by decide) w_4 (fun _ h9 => h9) rfl dX6_isOrder_208 ?_
                refine lv_bipush (v := nI 119) hx hb dX6_isOrder_211 (by decide +kernel) ?_
                refine icmp_eqN (tgt := 225) hx hb (by omega) (by omega) dX6_isOrder_213 (by decide) (fun c213 => ?_) (fun c213 => ?_)
                · skip
                  omega
                · skip
                  refine lv_aload_n hx hb dX6_isOrder_216 rfl (lv_at hl 1 rfl) ?_
                  refine va_get (D := G.1) (ci := 6) (v := .int (nI 97)) (C := RX6) (T := TX6) (N := 16) hx hb hts w_0 hown hE.1 hP 0 rfl rfl 11 (by decide) w_4 (fun _ h9 => h9) rfl dX6_isOrder_217 ?_
                  refine lv_bipush (v := nI 100) hx hb dX6_isOrder_220 (by decide +kernel) ?_
                  refine icmp_neN (tgt := 248) hx hb (by omega) (by omega) dX6_isOrder_222 (by decide) (fun c222 => ?_) (fun c222 => ?_)
                  · skip
                    refine lv_aload_n hx hb dX6_isOrder_248 rfl (lv_at hl 1 rfl) ?_
                    refine va_get (D := G.1) (ci := 6) (v := .int (ov (aO1 (nn tx) len spot))) (C := RX6) (T := TX6) (N := 16) hx hb hts w_0 hown hE.1 hP 0 rfl rfl 12 (by decide) w_5 (fun _ h9 => h9) rfl dX6_isOrder_249 ?_
                    refine lv_iconst (v := -1) hx hb dX6_isOrder_252 (by decide +kernel) ?_
                    refine lv_icmp_eq (tgt := 268) hx hb dX6_isOrder_253 (by decide) (fun c253 => ?_) (fun c253 => ?_)
                    · skip
                      exact absurd ((ov_m1 (fun v h => by have := tk_lt (by first | omega | (unfold hiM; split <;> omega)) v h; omega)).mp c253) c179
                    · skip
                      refine lv_aload_n hx hb dX6_isOrder_256 rfl (lv_at hl 1 rfl) ?_
                      refine va_get (D := G.1) (ci := 6) (v := .int (-1)) (C := RX6) (T := TX6) (N := 16) hx hb hts w_0 hown hE.1 hP 0 rfl rfl 13 (by decide) w_6 (fun _ h9 => h9) rfl dX6_isOrder_257 ?_
                      refine lv_iconst (v := -1) hx hb dX6_isOrder_260 (by decide +kernel) ?_
                      refine lv_icmp_eq (tgt := 268) hx hb dX6_isOrder_261 (by decide) (fun c261 => ?_) (fun c261 => ?_)
                      · skip
                        refine lv_iconst (v := nI 0) hx hb dX6_isOrder_268 (by decide +kernel) ?_
                        refine tS (st' := [.int (b2 (aOk (nn tx) len spot = true))]) (congrArg (fun z => [Value.int z]) (by simp [b2, aOk, isSome_iff, c179, c191])) ?_
                        exact W.zret hx hb hr (b2_z _) (fun t ht hW => ⟨rfl, by rw [ht]; exact (by unfold aS aB aW2; rw [if_neg c179, if_neg c179, if_neg c179, if_pos c191, if_pos c191, if_pos c191]; exact ⟨hP, hD⟩), hS.F ht⟩) hS.2.2 dX6_isOrder_269
                      · skip
                        exact absurd rfl c261
                  · skip
                    omega
        · skip
          omega
      · skip
        exact absurd c89 (by decide)
    · skip
      omega
set_option maxHeartbeats 4000000 in
set_option maxRecDepth 100000 in
theorem c_X6_isOrder_l (l : Launch) (G : eG) (ob a1 a2 a3 a4 a5 : Nat) (f th pa sn tx : Nat → Int32) (n len spot : Nat) (kp thr bad lt one two wh : Int32) (hash : Int64) (htx : Tx tx len) (hsp : spot ≤ len) (bd : Bool) (hL : lC (nn tx) len spot = 108) : Met l yX6_isOrder wsX6_isOrder ({ frames := 4, cells := 0, slots := 0, locals := 200 }) (PC [.ref ob] G (fun H => va_P G.1 vwCl [(ob, .inr (6, [.ref a1, .ref a2, .ref a3, .int (nI n), .ref a4, .int kp, .ref a5, .int (nI len), .int thr, .int (nI spot), .int (b2 (bd = true)), .int lt, .int one, .int two, .int wh, .long hash])), (a1, .inl (G.2.1, 97, .inl f)), (a2, .inl (G.2.1, 97, .inl th)), (a3, .inl (G.2.1, 582, .inl pa)), (a4, .inl (G.2.1, 97, .inl sn)), (a5, .inl (G.2.1, 60, .inl tx))] H ∧ va_D (fun _ => True) [(ob, .inr (6, [.ref a1, .ref a2, .ref a3, .int (nI n), .ref a4, .int kp, .ref a5, .int (nI len), .int thr, .int (nI spot), .int (b2 (bd = true)), .int lt, .int one, .int two, .int wh, .long hash])), (a1, .inl (G.2.1, 97, .inl f)), (a2, .inl (G.2.1, 97, .inl th)), (a3, .inl (G.2.1, 582, .inl pa)), (a4, .inl (G.2.1, 97, .inl sn)), (a5, .inl (G.2.1, 60, .inl tx))])) (MV (some (.int (b2 ((aO1 (nn tx) len spot).isSome = true)))) (fun H => va_P G.1 vwCl [(ob, .inr (6, [.ref a1, .ref a2, .ref a3, .int (nI n), .ref a4, .int kp, .ref a5, .int (nI len), .int thr, .int (nI (aS2 (nn tx) len spot)), .int (b2 (tkB (nn tx) len (spot + 1) 48 49 bd = true)), .int (nI 108), .int (ov (aO1 (nn tx) len spot)), .int (nI 0), .int wh, .long hash])), (a1, .inl (G.2.1, 97, .inl f)), (a2, .inl (G.2.1, 97, .inl th)), (a3, .inl (G.2.1, 582, .inl pa)), (a4, .inl (G.2.1, 97, .inl sn)), (a5, .inl (G.2.1, 60, .inl tx))] H ∧ va_D (inW [(ob, .inr (6, [.ref a1, .ref a2, .ref a3, .int (nI n), .ref a4, .int kp, .ref a5, .int (nI len), .int thr, .int (nI spot), .int (b2 (bd = true)), .int lt, .int one, .int two, .int wh, .long hash])), (a1, .inl (G.2.1, 97, .inl f)), (a2, .inl (G.2.1, 97, .inl th)), (a3, .inl (G.2.1, 582, .inl pa)), (a4, .inl (G.2.1, 97, .inl sn)), (a5, .inl (G.2.1, 60, .inl tx))]) [(ob, .inr (6, [.ref a1, .ref a2, .ref a3, .int (nI n), .ref a4, .int kp, .ref a5, .int (nI len), .int thr, .int (nI (aS2 (nn tx) len spot)), .int (b2 (tkB (nn tx) len (spot + 1) 48 49 bd = true)), .int (nI 108), .int (ov (aO1 (nn tx) len spot)), .int (nI 0), .int wh, .long hash])), (a1, .inl (G.2.1, 97, .inl f)), (a2, .inl (G.2.1, 97, .inl th)), (a3, .inl (G.2.1, 582, .inl pa)), (a4, .inl (G.2.1, 97, .inl sn)), (a5, .inl (G.2.1, 60, .inl tx))]) (inW [(ob, .inr (6, [.ref a1, .ref a2, .ref a3, .int (nI n), .ref a4, .int kp, .ref a5, .int (nI len), .int thr, .int (nI spot), .int (b2 (bd = true)), .int lt, .int one, .int two, .int wh, .long hash])), (a1, .inl (G.2.1, 97, .inl f)), (a2, .inl (G.2.1, 97, .inl th)), (a3, .inl (G.2.1, 582, .inl pa)), (a4, .inl (G.2.1, 97, .inl sn)), (a5, .inl (G.2.1, 60, .inl tx))])) 0 0 (inW [(ob, .inr (6, [.ref a1, .ref a2, .ref a3, .int (nI n), .ref a4, .int kp, .ref a5, .int (nI len), .int thr, .int (nI spot), .int (b2 (bd = true)), .int lt, .int one, .int two, .int wh, .long hash])), (a1, .inl (G.2.1, 97, .inl f)), (a2, .inl (G.2.1, 97, .inl th)), (a3, .inl (G.2.1, 582, .inl pa)), (a4, .inl (G.2.1, 97, .inl sn)), (a5, .inl (G.2.1, 60, .inl tx))]) := by
  refine ofB (cc := cX6_isOrder) (maxL := 2) (ret := (some .boolean)) (by decide) rfl (Nat.le_of_ble_eq_true rfl) ?_
  intro p e s m below meth c hx hb hr hlocks hml hown hin hts hE hI ls hl
  replace hown : s.vm.findClass RX6 = some m.cls := hown
  have hl : lv_has ls 2 [(0, .ref ob)] := hl
  obtain ⟨hP, hD0⟩ := hI
  have hD : va_D (inW [(ob, .inr (6, [.ref a1, .ref a2, .ref a3, .int (nI n), .ref a4, .int kp, .ref a5, .int (nI len), .int thr, .int (nI spot), .int (b2 (bd = true)), .int lt, .int one, .int two, .int wh, .long hash])), (a1, .inl (G.2.1, 97, .inl f)), (a2, .inl (G.2.1, 97, .inl th)), (a3, .inl (G.2.1, 582, .inl pa)), (a4, .inl (G.2.1, 97, .inl sn)), (a5, .inl (G.2.1, 60, .inl tx))]) [(ob, .inr (6, [.ref a1, .ref a2, .ref a3, .int (nI n), .ref a4, .int kp, .ref a5, .int (nI len), .int thr, .int (nI spot), .int (b2 (bd = true)), .int lt, .int one, .int two, .int wh, .long hash])), (a1, .inl (G.2.1, 97, .inl f)), (a2, .inl (G.2.1, 97, .inl th)), (a3, .inl (G.2.1, 582, .inl pa)), (a4, .inl (G.2.1, 97, .inl sn)), (a5, .inl (G.2.1, 60, .inl tx))] := D_self hD0
  obtain ⟨A, hAe⟩ : ∃ A, A = inW [(ob, .inr (6, [.ref a1, .ref a2, .ref a3, .int (nI n), .ref a4, .int kp, .ref a5, .int (nI len), .int thr, .int (nI spot), .int (b2 (bd = true)), .int lt, .int one, .int two, .int wh, .long hash])), (a1, .inl (G.2.1, 97, .inl f)), (a2, .inl (G.2.1, 97, .inl th)), (a3, .inl (G.2.1, 582, .inl pa)), (a4, .inl (G.2.1, 97, .inl sn)), (a5, .inl (G.2.1, 60, .inl tx))] := ⟨_, rfl⟩
  rw [← hAe] at hD ⊢
  have hS : va_S A s.heap s.heap [] := va_S.rf
  obtain ⟨H, hHe⟩ : ∃ H, H = s.heap := ⟨_, rfl⟩
  obtain ⟨locs, hle⟩ : ∃ q : List Loc, q = [] := ⟨_, rfl⟩
  rw [← hle] at hS ⊢
  have hP : va_P G.1 vwCl [(ob, .inr (6, [.ref a1, .ref a2, .ref a3, .int (nI n), .ref a4, .int kp, .ref a5, .int (nI len), .int thr, .int (nI spot), .int (b2 (bd = true)), .int lt, .int one, .int two, .int wh, .long hash])), (a1, .inl (G.2.1, 97, .inl f)), (a2, .inl (G.2.1, 97, .inl th)), (a3, .inl (G.2.1, 582, .inl pa)), (a4, .inl (G.2.1, 97, .inl sn)), (a5, .inl (G.2.1, 60, .inl tx))] H := by rw [hHe]; exact hP
  replace hS : va_S A s.heap H locs := by rw [hHe]; exact hS
  refine tH hHe ?_
  have w_0 : ∀ w ∈ u_ws RX6 TX6 16, w ∈ wsX6_isOrder := by decide +kernel
  have w_1 := hts (.fieldLink RX6 122 "CableFerryModel" "spot" "I") (by decide +kernel)
  have w_2 := hts (.fieldLink RX6 119 "CableFerryModel" "length" "I") (by decide +kernel)
  have w_3 := hts (.fieldLink RX6 22 "CableFerryModel" "text" "[I") (by decide +kernel)
  have w_4 := hts (.fieldLink RX6 136 "CableFerryModel" "letter" "I") (by decide +kernel)
  have w_5 := hts (.fieldLink RX6 139 "CableFerryModel" "one" "I") (by decide +kernel)
  have w_6 := hts (.fieldLink RX6 142 "CableFerryModel" "two" "I") (by decide +kernel)
  have hl60 := htx.1
  have hsl : spot < len := by unfold lC at hL; split at hL <;> omega
  have hLt : nn tx spot = 108 := by unfold lC at hL; rw [if_pos hsl] at hL; exact hL
  refine lv_aload_n hx hb dX6_isOrder_0 rfl (lv_at hl 0 rfl) ?_
  refine lv_aload_n hx hb dX6_isOrder_1 rfl (lv_at hl 0 rfl) ?_
  refine va_get (D := G.1) (ci := 6) (v := .int (nI spot)) (C := RX6) (T := TX6) (N := 16) hx hb hts w_0 hown hE.1 hP 0 rfl rfl 9 (by decide) w_1 (fun _ h9 => h9) rfl dX6_isOrder_2 ?_
  refine lv_aload_n hx hb dX6_isOrder_5 rfl (lv_at hl 0 rfl) ?_
  refine va_get (D := G.1) (ci := 6) (v := .int (nI len)) (C := RX6) (T := TX6) (N := 16) hx hb hts w_0 hown hE.1 hP 0 rfl rfl 7 (by decide) w_2 (fun _ h9 => h9) rfl dX6_isOrder_6 ?_
  refine icmp_geN (tgt := 24) hx hb (by omega) (by omega) dX6_isOrder_9 (by decide) (fun c9 => ?_) (fun c9 => ?_)
  · skip
    omega
  · skip
    refine lv_aload_n hx hb dX6_isOrder_12 rfl (lv_at hl 0 rfl) ?_
    refine va_get (D := G.1) (ci := 6) (v := .ref a5) (C := RX6) (T := TX6) (N := 16) hx hb hts w_0 hown hE.1 hP 0 rfl rfl 6 (by decide) w_3 (fun _ h9 => h9) rfl dX6_isOrder_13 ?_
    refine lv_aload_n hx hb dX6_isOrder_16 rfl (lv_at hl 0 rfl) ?_
    refine va_get (D := G.1) (ci := 6) (v := .int (nI spot)) (C := RX6) (T := TX6) (N := 16) hx hb hts w_0 hown hE.1 hP 0 rfl rfl 9 (by decide) w_1 (fun _ h9 => h9) rfl dX6_isOrder_17 ?_
    refine ialdN (k := spot) hx hb hE.1 hP 5 0 rfl rfl (by omega) (by decide) dX6_isOrder_20 ?_
    refine tI (y := nI 108) ((htx.2 _ hsl).1.trans (by rw [hLt])) ?_
    refine lv_goto (tgt := 25) hx hb dX6_isOrder_21 (by decide) ?_
    refine va_put (D := G.1) (ci := 6) (v := .int (nI 108)) (ty := .int) (C := RX6) (T := TX6) (N := 16) hx hb hts w_0 tyX6 tyX6_ok nmX6 hown hE.1 hP hD hS 0 rfl rfl 11 (by decide) w_4 (fun _ h9 => h9) rfl (by decide +kernel) rfl rfl (Nat.le_of_ble_eq_true rfl) dX6_isOrder_25 (fun H locs hP hD hS => ?_)
    have hP : va_P G.1 vwCl [(ob, .inr (6, [.ref a1, .ref a2, .ref a3, .int (nI n), .ref a4, .int kp, .ref a5, .int (nI len), .int thr, .int (nI spot), .int (b2 (bd = true)), .int (nI 108), .int one, .int two, .int wh, .long hash])), (a1, .inl (G.2.1, 97, .inl f)), (a2, .inl (G.2.1, 97, .inl th)), (a3, .inl (G.2.1, 582, .inl pa)), (a4, .inl (G.2.1, 97, .inl sn)), (a5, .inl (G.2.1, 60, .inl tx))] H := hP
    have hD : va_D A [(ob, .inr (6, [.ref a1, .ref a2, .ref a3, .int (nI n), .ref a4, .int kp, .ref a5, .int (nI len), .int thr, .int (nI spot), .int (b2 (bd = true)), .int (nI 108), .int one, .int two, .int wh, .long hash])), (a1, .inl (G.2.1, 97, .inl f)), (a2, .inl (G.2.1, 97, .inl th)), (a3, .inl (G.2.1, 582, .inl pa)), (a4, .inl (G.2.1, 97, .inl sn)), (a5, .inl (G.2.1, 60, .inl tx))] := hD
    refine lv_aload_n hx hb dX6_isOrder_28 rfl (lv_at hl 0 rfl) ?_
    refine va_get (D := G.1) (ci := 6) (v := .int (nI 108)) (C := RX6) (T := TX6) (N := 16) hx hb hts w_0 hown hE.1 hP 0 rfl rfl 11 (by decide) w_4 (fun _ h9 => h9) rfl dX6_isOrder_29 ?_
    refine lv_bipush (v := nI 97) hx hb dX6_isOrder_32 (by decide +kernel) ?_
    refine icmp_eqN (tgt := 82) hx hb (by omega) (by omega) dX6_isOrder_34 (by decide) (fun c34 => ?_) (fun c34 => ?_)
    · skip
      omega
    · skip
      refine lv_aload_n hx hb dX6_isOrder_37 rfl (lv_at hl 0 rfl) ?_
      refine va_get (D := G.1) (ci := 6) (v := .int (nI 108)) (C := RX6) (T := TX6) (N := 16) hx hb hts w_0 hown hE.1 hP 0 rfl rfl 11 (by decide) w_4 (fun _ h9 => h9) rfl dX6_isOrder_38 ?_
      refine lv_bipush (v := nI 108) hx hb dX6_isOrder_41 (by decide +kernel) ?_
      refine icmp_eqN (tgt := 82) hx hb (by omega) (by omega) dX6_isOrder_43 (by decide) (fun c43 => ?_) (fun c43 => ?_)
      · skip
        refine lv_iconst (v := nI 1) hx hb dX6_isOrder_82 (by decide +kernel) ?_
        refine lv_goto (tgt := 87) hx hb dX6_isOrder_83 (by decide) ?_
        refine lv_istore_n (lv' := [(1, .int (nI 1)), (0, .ref ob)]) hx hb dX6_isOrder_87 rfl hl (by decide) rfl (fun ls hl => ?_)
        refine lv_iload_n hx hb dX6_isOrder_88 rfl (lv_at hl 0 rfl) ?_
        refine lv_if_ne (tgt := 114) hx hb dX6_isOrder_89 (by decide) (fun c89 => ?_) (fun c89 => ?_)
        · skip
          refine lv_aload_n hx hb dX6_isOrder_114 rfl (lv_at hl 1 rfl) ?_
          refine lv_dup hx hb dX6_isOrder_115 rfl ?_
          refine va_get (D := G.1) (ci := 6) (v := .int (nI spot)) (C := RX6) (T := TX6) (N := 16) hx hb hts w_0 hown hE.1 hP 0 rfl rfl 9 (by decide) w_1 (fun _ h9 => h9) rfl dX6_isOrder_116 ?_
          refine lv_iconst (v := nI 1) hx hb dX6_isOrder_119 (by decide +kernel) ?_
          refine iaddN hx hb dX6_isOrder_120 ?_
          refine va_put (D := G.1) (ci := 6) (v := .int (nI (spot + 1))) (ty := .int) (C := RX6) (T := TX6) (N := 16) hx hb hts w_0 tyX6 tyX6_ok nmX6 hown hE.1 hP hD hS 0 rfl rfl 9 (by decide) w_1 (fun _ h9 => h9) rfl (by decide +kernel) rfl rfl (Nat.le_of_ble_eq_true rfl) dX6_isOrder_121 (fun H locs hP hD hS => ?_)
          have hP : va_P G.1 vwCl [(ob, .inr (6, [.ref a1, .ref a2, .ref a3, .int (nI n), .ref a4, .int kp, .ref a5, .int (nI len), .int thr, .int (nI (spot + 1)), .int (b2 (bd = true)), .int (nI 108), .int one, .int two, .int wh, .long hash])), (a1, .inl (G.2.1, 97, .inl f)), (a2, .inl (G.2.1, 97, .inl th)), (a3, .inl (G.2.1, 582, .inl pa)), (a4, .inl (G.2.1, 97, .inl sn)), (a5, .inl (G.2.1, 60, .inl tx))] H := hP
          have hD : va_D A [(ob, .inr (6, [.ref a1, .ref a2, .ref a3, .int (nI n), .ref a4, .int kp, .ref a5, .int (nI len), .int thr, .int (nI (spot + 1)), .int (b2 (bd = true)), .int (nI 108), .int one, .int two, .int wh, .long hash])), (a1, .inl (G.2.1, 97, .inl f)), (a2, .inl (G.2.1, 97, .inl th)), (a3, .inl (G.2.1, 582, .inl pa)), (a4, .inl (G.2.1, 97, .inl sn)), (a5, .inl (G.2.1, 60, .inl tx))] := hD
          refine lv_aload_n hx hb dX6_isOrder_124 rfl (lv_at hl 1 rfl) ?_
          refine lv_iconst (v := nI 0) hx hb dX6_isOrder_125 (by decide +kernel) ?_
          refine va_put (D := G.1) (ci := 6) (v := .int (nI 0)) (ty := .int) (C := RX6) (T := TX6) (N := 16) hx hb hts w_0 tyX6 tyX6_ok nmX6 hown hE.1 hP hD hS 0 rfl rfl 12 (by decide) w_5 (fun _ h9 => h9) rfl (by decide +kernel) rfl rfl (Nat.le_of_ble_eq_true rfl) dX6_isOrder_126 (fun H locs hP hD hS => ?_)
          have hP : va_P G.1 vwCl [(ob, .inr (6, [.ref a1, .ref a2, .ref a3, .int (nI n), .ref a4, .int kp, .ref a5, .int (nI len), .int thr, .int (nI (spot + 1)), .int (b2 (bd = true)), .int (nI 108), .int (nI 0), .int two, .int wh, .long hash])), (a1, .inl (G.2.1, 97, .inl f)), (a2, .inl (G.2.1, 97, .inl th)), (a3, .inl (G.2.1, 582, .inl pa)), (a4, .inl (G.2.1, 97, .inl sn)), (a5, .inl (G.2.1, 60, .inl tx))] H := hP
          have hD : va_D A [(ob, .inr (6, [.ref a1, .ref a2, .ref a3, .int (nI n), .ref a4, .int kp, .ref a5, .int (nI len), .int thr, .int (nI (spot + 1)), .int (b2 (bd = true)), .int (nI 108), .int (nI 0), .int two, .int wh, .long hash])), (a1, .inl (G.2.1, 97, .inl f)), (a2, .inl (G.2.1, 97, .inl th)), (a3, .inl (G.2.1, 582, .inl pa)), (a4, .inl (G.2.1, 97, .inl sn)), (a5, .inl (G.2.1, 60, .inl tx))] := hD
          refine lv_aload_n hx hb dX6_isOrder_129 rfl (lv_at hl 1 rfl) ?_
          refine lv_iconst (v := nI 0) hx hb dX6_isOrder_130 (by decide +kernel) ?_
          refine va_put (D := G.1) (ci := 6) (v := .int (nI 0)) (ty := .int) (C := RX6) (T := TX6) (N := 16) hx hb hts w_0 tyX6 tyX6_ok nmX6 hown hE.1 hP hD hS 0 rfl rfl 13 (by decide) w_6 (fun _ h9 => h9) rfl (by decide +kernel) rfl rfl (Nat.le_of_ble_eq_true rfl) dX6_isOrder_131 (fun H locs hP hD hS => ?_)
          have hP : va_P G.1 vwCl [(ob, .inr (6, [.ref a1, .ref a2, .ref a3, .int (nI n), .ref a4, .int kp, .ref a5, .int (nI len), .int thr, .int (nI (spot + 1)), .int (b2 (bd = true)), .int (nI 108), .int (nI 0), .int (nI 0), .int wh, .long hash])), (a1, .inl (G.2.1, 97, .inl f)), (a2, .inl (G.2.1, 97, .inl th)), (a3, .inl (G.2.1, 582, .inl pa)), (a4, .inl (G.2.1, 97, .inl sn)), (a5, .inl (G.2.1, 60, .inl tx))] H := hP
          have hD : va_D A [(ob, .inr (6, [.ref a1, .ref a2, .ref a3, .int (nI n), .ref a4, .int kp, .ref a5, .int (nI len), .int thr, .int (nI (spot + 1)), .int (b2 (bd = true)), .int (nI 108), .int (nI 0), .int (nI 0), .int wh, .long hash])), (a1, .inl (G.2.1, 97, .inl f)), (a2, .inl (G.2.1, 97, .inl th)), (a3, .inl (G.2.1, 582, .inl pa)), (a4, .inl (G.2.1, 97, .inl sn)), (a5, .inl (G.2.1, 60, .inl tx))] := hD
          refine lv_aload_n hx hb dX6_isOrder_134 rfl (lv_at hl 1 rfl) ?_
          refine va_get (D := G.1) (ci := 6) (v := .int (nI 108)) (C := RX6) (T := TX6) (N := 16) hx hb hts w_0 hown hE.1 hP 0 rfl rfl 11 (by decide) w_4 (fun _ h9 => h9) rfl dX6_isOrder_135 ?_
          refine lv_bipush (v := nI 97) hx hb dX6_isOrder_138 (by decide +kernel) ?_
          refine icmp_eqN (tgt := 152) hx hb (by omega) (by omega) dX6_isOrder_140 (by decide) (fun c140 => ?_) (fun c140 => ?_)
          · skip
            omega
          · skip
            refine lv_aload_n hx hb dX6_isOrder_143 rfl (lv_at hl 1 rfl) ?_
            refine va_get (D := G.1) (ci := 6) (v := .int (nI 108)) (C := RX6) (T := TX6) (N := 16) hx hb hts w_0 hown hE.1 hP 0 rfl rfl 11 (by decide) w_4 (fun _ h9 => h9) rfl dX6_isOrder_144 ?_
            refine lv_bipush (v := nI 108) hx hb dX6_isOrder_147 (by decide +kernel) ?_
            refine icmp_neN (tgt := 164) hx hb (by omega) (by omega) dX6_isOrder_149 (by decide) (fun c149 => ?_) (fun c149 => ?_)
            · skip
              omega
            · skip
              refine lv_aload_n hx hb dX6_isOrder_152 rfl (lv_at hl 1 rfl) ?_
              refine lv_aload_n hx hb dX6_isOrder_153 rfl (lv_at hl 1 rfl) ?_
              refine lv_bipush (v := nI 48) hx hb dX6_isOrder_154 (by decide +kernel) ?_
              refine lv_bipush (v := nI 49) hx hb dX6_isOrder_156 (by decide +kernel) ?_
              have hPc := hP.sub (ws' := [(ob, .inr (6, [.ref a1, .ref a2, .ref a3, .int (nI n), .ref a4, .int kp, .ref a5, .int (nI len), .int thr, .int (nI (spot + 1)), .int (b2 (bd = true)), .int (nI 108), .int (nI 0), .int (nI 0), .int wh, .long hash])), (a1, .inl (G.2.1, 97, .inl f)), (a2, .inl (G.2.1, 97, .inl th)), (a3, .inl (G.2.1, 582, .inl pa)), (a4, .inl (G.2.1, 97, .inl sn)), (a5, .inl (G.2.1, 60, .inl tx))]) [0, 1, 2, 3, 4, 5] rfl
              have hDc := hD.sub (ws' := [(ob, .inr (6, [.ref a1, .ref a2, .ref a3, .int (nI n), .ref a4, .int kp, .ref a5, .int (nI len), .int thr, .int (nI (spot + 1)), .int (b2 (bd = true)), .int (nI 108), .int (nI 0), .int (nI 0), .int wh, .long hash])), (a1, .inl (G.2.1, 97, .inl f)), (a2, .inl (G.2.1, 97, .inl th)), (a3, .inl (G.2.1, 582, .inl pa)), (a4, .inl (G.2.1, 97, .inl sn)), (a5, .inl (G.2.1, 60, .inl tx))]) [0, 1, 2, 3, 4, 5] (by decide) rfl
              refine mcall (st1 := [.int (ov (tk (nn tx) len (spot + 1) 48 49)), .ref ob]) (va_runV (As := [.int (nI 48), .int (nI 49)]) (rest := [.ref ob]) ⟨hx, hb, hml, hown, hts⟩ (c_X6_takes l G ob a1 a2 a3 a4 a5 f th pa sn tx n len (spot + 1) kp thr (b2 (bd = true)) (nI 108) (nI 0) (nI 0) wh hash htx (by omega) bd 48 49 (by first | omega | (unfold hiM; split <;> omega)) (by first | omega | (unfold hiM; split <;> omega))) (cwV 2 hts gX6_isOrder_X6_takes rfl rfl rfl (by decide +kernel) ⟨Nat.le_of_ble_eq_true rfl, Nat.le_of_ble_eq_true rfl⟩) (PC.preV hE (va_recv hE.1 hP (ci := 6) (q0 := 0) rfl rfl) ⟨hPc, hDc.weaken (fun _ _ _ _ => trivial)⟩) rfl rfl hl.1 rfl (lv_room (Nat.le_of_ble_eq_true rfl)) dX6_isOrder_158 ⟨Nat.zero_le _, Nat.zero_le _⟩) hS (fun q _ h => inW_D hDc q h) (fun q h => inW_D hDc q h) rfl (fun H1 locs1 hB hz1 hk1 hS => ?_)
              obtain ⟨hP1, hD1⟩ := hB
              obtain ⟨hP, hD⟩ := jnW (wr := []) (w1 := [(ob, .inr (6, [.ref a1, .ref a2, .ref a3, .int (nI n), .ref a4, .int kp, .ref a5, .int (nI len), .int thr, .int (nI (tkS (nn tx) len (spot + 1) 48 49)), .int (b2 (tkB (nn tx) len (spot + 1) 48 49 bd = true)), .int (nI 108), .int (nI 0), .int (nI 0), .int wh, .long hash])), (a1, .inl (G.2.1, 97, .inl f)), (a2, .inl (G.2.1, 97, .inl th)), (a3, .inl (G.2.1, 582, .inl pa)), (a4, .inl (G.2.1, 97, .inl sn)), (a5, .inl (G.2.1, 60, .inl tx))]) hP hD [0, 1, 2, 3, 4, 5] [] rfl rfl (by decide) (by decide) hk1 hP1 hD1
              generalize H1 = H at hP hS ⊢
              have hP : va_P G.1 vwCl [(ob, .inr (6, [.ref a1, .ref a2, .ref a3, .int (nI n), .ref a4, .int kp, .ref a5, .int (nI len), .int thr, .int (nI (tkS (nn tx) len (spot + 1) 48 49)), .int (b2 (tkB (nn tx) len (spot + 1) 48 49 bd = true)), .int (nI 108), .int (nI 0), .int (nI 0), .int wh, .long hash])), (a1, .inl (G.2.1, 97, .inl f)), (a2, .inl (G.2.1, 97, .inl th)), (a3, .inl (G.2.1, 582, .inl pa)), (a4, .inl (G.2.1, 97, .inl sn)), (a5, .inl (G.2.1, 60, .inl tx))] H := hP
              have hD : va_D A [(ob, .inr (6, [.ref a1, .ref a2, .ref a3, .int (nI n), .ref a4, .int kp, .ref a5, .int (nI len), .int thr, .int (nI (tkS (nn tx) len (spot + 1) 48 49)), .int (b2 (tkB (nn tx) len (spot + 1) 48 49 bd = true)), .int (nI 108), .int (nI 0), .int (nI 0), .int wh, .long hash])), (a1, .inl (G.2.1, 97, .inl f)), (a2, .inl (G.2.1, 97, .inl th)), (a3, .inl (G.2.1, 582, .inl pa)), (a4, .inl (G.2.1, 97, .inl sn)), (a5, .inl (G.2.1, 60, .inl tx))] := hD
              refine tI (y := ov (aO1 (nn tx) len spot)) (rfl) ?_
              refine va_put (D := G.1) (ci := 6) (v := .int (ov (aO1 (nn tx) len spot))) (ty := .int) (C := RX6) (T := TX6) (N := 16) hx hb hts w_0 tyX6 tyX6_ok nmX6 hown hE.1 hP hD hS 0 rfl rfl 12 (by decide) w_5 (fun _ h9 => h9) rfl (by decide +kernel) rfl rfl (Nat.le_of_ble_eq_true rfl) dX6_isOrder_161 (fun H locs hP hD hS => ?_)
              have hP : va_P G.1 vwCl [(ob, .inr (6, [.ref a1, .ref a2, .ref a3, .int (nI n), .ref a4, .int kp, .ref a5, .int (nI len), .int thr, .int (nI (tkS (nn tx) len (spot + 1) 48 49)), .int (b2 (tkB (nn tx) len (spot + 1) 48 49 bd = true)), .int (nI 108), .int (ov (aO1 (nn tx) len spot)), .int (nI 0), .int wh, .long hash])), (a1, .inl (G.2.1, 97, .inl f)), (a2, .inl (G.2.1, 97, .inl th)), (a3, .inl (G.2.1, 582, .inl pa)), (a4, .inl (G.2.1, 97, .inl sn)), (a5, .inl (G.2.1, 60, .inl tx))] H := hP
              have hD : va_D A [(ob, .inr (6, [.ref a1, .ref a2, .ref a3, .int (nI n), .ref a4, .int kp, .ref a5, .int (nI len), .int thr, .int (nI (tkS (nn tx) len (spot + 1) 48 49)), .int (b2 (tkB (nn tx) len (spot + 1) 48 49 bd = true)), .int (nI 108), .int (ov (aO1 (nn tx) len spot)), .int (nI 0), .int wh, .long hash])), (a1, .inl (G.2.1, 97, .inl f)), (a2, .inl (G.2.1, 97, .inl th)), (a3, .inl (G.2.1, 582, .inl pa)), (a4, .inl (G.2.1, 97, .inl sn)), (a5, .inl (G.2.1, 60, .inl tx))] := hD
              refine lv_aload_n hx hb dX6_isOrder_164 rfl (lv_at hl 1 rfl) ?_
              refine va_get (D := G.1) (ci := 6) (v := .int (nI 108)) (C := RX6) (T := TX6) (N := 16) hx hb hts w_0 hown hE.1 hP 0 rfl rfl 11 (by decide) w_4 (fun _ h9 => h9) rfl dX6_isOrder_165 ?_
              refine lv_bipush (v := nI 97) hx hb dX6_isOrder_168 (by decide +kernel) ?_
              refine icmp_neN (tgt := 207) hx hb (by omega) (by omega) dX6_isOrder_170 (by decide) (fun c170 => ?_) (fun c170 => ?_)
              · skip
                refine lv_aload_n hx hb dX6_isOrder_207 rfl (lv_at hl 1 rfl) ?_
                refine va_get (D := G.1) (ci := 6) (v := .int (nI 108)) (C := RX6) (T := TX6) (N := 16) hx hb hts w_0 hown hE.1 hP 0 rfl rfl 11 (by decide) w_4 (fun _ h9 => h9) rfl dX6_isOrder_208 ?_
                refine lv_bipush (v := nI 119) hx hb dX6_isOrder_211 (by decide +kernel) ?_
                refine icmp_eqN (tgt := 225) hx hb (by omega) (by omega) dX6_isOrder_213 (by decide) (fun c213 => ?_) (fun c213 => ?_)
                · skip
                  omega
                · skip
                  refine lv_aload_n hx hb dX6_isOrder_216 rfl (lv_at hl 1 rfl) ?_
                  refine va_get (D := G.1) (ci := 6) (v := .int (nI 108)) (C := RX6) (T := TX6) (N := 16) hx hb hts w_0 hown hE.1 hP 0 rfl rfl 11 (by decide) w_4 (fun _ h9 => h9) rfl dX6_isOrder_217 ?_
                  refine lv_bipush (v := nI 100) hx hb dX6_isOrder_220 (by decide +kernel) ?_
                  refine icmp_neN (tgt := 248) hx hb (by omega) (by omega) dX6_isOrder_222 (by decide) (fun c222 => ?_) (fun c222 => ?_)
                  · skip
                    refine lv_aload_n hx hb dX6_isOrder_248 rfl (lv_at hl 1 rfl) ?_
                    refine va_get (D := G.1) (ci := 6) (v := .int (ov (aO1 (nn tx) len spot))) (C := RX6) (T := TX6) (N := 16) hx hb hts w_0 hown hE.1 hP 0 rfl rfl 12 (by decide) w_5 (fun _ h9 => h9) rfl dX6_isOrder_249 ?_
                    refine lv_iconst (v := -1) hx hb dX6_isOrder_252 (by decide +kernel) ?_
                    refine lv_icmp_eq (tgt := 268) hx hb dX6_isOrder_253 (by decide) (fun c253 => ?_) (fun c253 => ?_)
                    · skip
                      rw [ov_m1 (fun v h => by have := tk_lt (by first | omega | (unfold hiM; split <;> omega)) v h; omega)] at c253
                      refine lv_iconst (v := nI 0) hx hb dX6_isOrder_268 (by decide +kernel) ?_
                      refine tS (st' := [.int (b2 ((aO1 (nn tx) len spot).isSome = true))]) (congrArg (fun z => [Value.int z]) (by simp [b2, isSome_iff, c253])) ?_
                      exact W.zret hx hb hr (b2_z _) (fun t ht hW => ⟨rfl, by rw [ht]; exact ⟨hP, hD⟩, hS.F ht⟩) hS.2.2 dX6_isOrder_269
                    · skip
                      rw [ov_m1 (fun v h => by have := tk_lt (by first | omega | (unfold hiM; split <;> omega)) v h; omega)] at c253
                      refine lv_aload_n hx hb dX6_isOrder_256 rfl (lv_at hl 1 rfl) ?_
                      refine va_get (D := G.1) (ci := 6) (v := .int (nI 0)) (C := RX6) (T := TX6) (N := 16) hx hb hts w_0 hown hE.1 hP 0 rfl rfl 13 (by decide) w_6 (fun _ h9 => h9) rfl dX6_isOrder_257 ?_
                      refine lv_iconst (v := -1) hx hb dX6_isOrder_260 (by decide +kernel) ?_
                      refine lv_icmp_eq (tgt := 268) hx hb dX6_isOrder_261 (by decide) (fun c261 => ?_) (fun c261 => ?_)
                      · skip
                        exact absurd c261 (by decide +kernel)
                      · skip
                        refine lv_iconst (v := nI 1) hx hb dX6_isOrder_264 (by decide +kernel) ?_
                        refine lv_goto (tgt := 269) hx hb dX6_isOrder_265 (by decide) ?_
                        refine tS (st' := [.int (b2 ((aO1 (nn tx) len spot).isSome = true))]) (congrArg (fun z => [Value.int z]) (by simp [b2, isSome_iff, c253])) ?_
                        exact W.zret hx hb hr (b2_z _) (fun t ht hW => ⟨rfl, by rw [ht]; exact ⟨hP, hD⟩, hS.F ht⟩) hS.2.2 dX6_isOrder_269
                  · skip
                    omega
              · skip
                omega
        · skip
          exact absurd c89 (by decide)
      · skip
        omega
set_option maxHeartbeats 4000000 in
set_option maxRecDepth 100000 in
theorem c_X6_isOrder_u (l : Launch) (G : eG) (ob a1 a2 a3 a4 a5 : Nat) (f th pa sn tx : Nat → Int32) (n len spot : Nat) (kp thr bad lt one two wh : Int32) (hash : Int64) (htx : Tx tx len) (hsp : spot ≤ len) (bd : Bool) (hL : lC (nn tx) len spot = 117) : Met l yX6_isOrder wsX6_isOrder ({ frames := 4, cells := 0, slots := 0, locals := 200 }) (PC [.ref ob] G (fun H => va_P G.1 vwCl [(ob, .inr (6, [.ref a1, .ref a2, .ref a3, .int (nI n), .ref a4, .int kp, .ref a5, .int (nI len), .int thr, .int (nI spot), .int (b2 (bd = true)), .int lt, .int one, .int two, .int wh, .long hash])), (a1, .inl (G.2.1, 97, .inl f)), (a2, .inl (G.2.1, 97, .inl th)), (a3, .inl (G.2.1, 582, .inl pa)), (a4, .inl (G.2.1, 97, .inl sn)), (a5, .inl (G.2.1, 60, .inl tx))] H ∧ va_D (fun _ => True) [(ob, .inr (6, [.ref a1, .ref a2, .ref a3, .int (nI n), .ref a4, .int kp, .ref a5, .int (nI len), .int thr, .int (nI spot), .int (b2 (bd = true)), .int lt, .int one, .int two, .int wh, .long hash])), (a1, .inl (G.2.1, 97, .inl f)), (a2, .inl (G.2.1, 97, .inl th)), (a3, .inl (G.2.1, 582, .inl pa)), (a4, .inl (G.2.1, 97, .inl sn)), (a5, .inl (G.2.1, 60, .inl tx))])) (MV (some (.int (b2 (true = true)))) (fun H => va_P G.1 vwCl [(ob, .inr (6, [.ref a1, .ref a2, .ref a3, .int (nI n), .ref a4, .int kp, .ref a5, .int (nI len), .int thr, .int (nI (spot + 1)), .int (b2 (bd = true)), .int (nI 117), .int (nI 0), .int (nI 0), .int wh, .long hash])), (a1, .inl (G.2.1, 97, .inl f)), (a2, .inl (G.2.1, 97, .inl th)), (a3, .inl (G.2.1, 582, .inl pa)), (a4, .inl (G.2.1, 97, .inl sn)), (a5, .inl (G.2.1, 60, .inl tx))] H ∧ va_D (inW [(ob, .inr (6, [.ref a1, .ref a2, .ref a3, .int (nI n), .ref a4, .int kp, .ref a5, .int (nI len), .int thr, .int (nI spot), .int (b2 (bd = true)), .int lt, .int one, .int two, .int wh, .long hash])), (a1, .inl (G.2.1, 97, .inl f)), (a2, .inl (G.2.1, 97, .inl th)), (a3, .inl (G.2.1, 582, .inl pa)), (a4, .inl (G.2.1, 97, .inl sn)), (a5, .inl (G.2.1, 60, .inl tx))]) [(ob, .inr (6, [.ref a1, .ref a2, .ref a3, .int (nI n), .ref a4, .int kp, .ref a5, .int (nI len), .int thr, .int (nI (spot + 1)), .int (b2 (bd = true)), .int (nI 117), .int (nI 0), .int (nI 0), .int wh, .long hash])), (a1, .inl (G.2.1, 97, .inl f)), (a2, .inl (G.2.1, 97, .inl th)), (a3, .inl (G.2.1, 582, .inl pa)), (a4, .inl (G.2.1, 97, .inl sn)), (a5, .inl (G.2.1, 60, .inl tx))]) (inW [(ob, .inr (6, [.ref a1, .ref a2, .ref a3, .int (nI n), .ref a4, .int kp, .ref a5, .int (nI len), .int thr, .int (nI spot), .int (b2 (bd = true)), .int lt, .int one, .int two, .int wh, .long hash])), (a1, .inl (G.2.1, 97, .inl f)), (a2, .inl (G.2.1, 97, .inl th)), (a3, .inl (G.2.1, 582, .inl pa)), (a4, .inl (G.2.1, 97, .inl sn)), (a5, .inl (G.2.1, 60, .inl tx))])) 0 0 (inW [(ob, .inr (6, [.ref a1, .ref a2, .ref a3, .int (nI n), .ref a4, .int kp, .ref a5, .int (nI len), .int thr, .int (nI spot), .int (b2 (bd = true)), .int lt, .int one, .int two, .int wh, .long hash])), (a1, .inl (G.2.1, 97, .inl f)), (a2, .inl (G.2.1, 97, .inl th)), (a3, .inl (G.2.1, 582, .inl pa)), (a4, .inl (G.2.1, 97, .inl sn)), (a5, .inl (G.2.1, 60, .inl tx))]) := by
  refine ofB (cc := cX6_isOrder) (maxL := 2) (ret := (some .boolean)) (by decide) rfl (Nat.le_of_ble_eq_true rfl) ?_
  intro p e s m below meth c hx hb hr hlocks hml hown hin hts hE hI ls hl
  replace hown : s.vm.findClass RX6 = some m.cls := hown
  have hl : lv_has ls 2 [(0, .ref ob)] := hl
  obtain ⟨hP, hD0⟩ := hI
  have hD : va_D (inW [(ob, .inr (6, [.ref a1, .ref a2, .ref a3, .int (nI n), .ref a4, .int kp, .ref a5, .int (nI len), .int thr, .int (nI spot), .int (b2 (bd = true)), .int lt, .int one, .int two, .int wh, .long hash])), (a1, .inl (G.2.1, 97, .inl f)), (a2, .inl (G.2.1, 97, .inl th)), (a3, .inl (G.2.1, 582, .inl pa)), (a4, .inl (G.2.1, 97, .inl sn)), (a5, .inl (G.2.1, 60, .inl tx))]) [(ob, .inr (6, [.ref a1, .ref a2, .ref a3, .int (nI n), .ref a4, .int kp, .ref a5, .int (nI len), .int thr, .int (nI spot), .int (b2 (bd = true)), .int lt, .int one, .int two, .int wh, .long hash])), (a1, .inl (G.2.1, 97, .inl f)), (a2, .inl (G.2.1, 97, .inl th)), (a3, .inl (G.2.1, 582, .inl pa)), (a4, .inl (G.2.1, 97, .inl sn)), (a5, .inl (G.2.1, 60, .inl tx))] := D_self hD0
  obtain ⟨A, hAe⟩ : ∃ A, A = inW [(ob, .inr (6, [.ref a1, .ref a2, .ref a3, .int (nI n), .ref a4, .int kp, .ref a5, .int (nI len), .int thr, .int (nI spot), .int (b2 (bd = true)), .int lt, .int one, .int two, .int wh, .long hash])), (a1, .inl (G.2.1, 97, .inl f)), (a2, .inl (G.2.1, 97, .inl th)), (a3, .inl (G.2.1, 582, .inl pa)), (a4, .inl (G.2.1, 97, .inl sn)), (a5, .inl (G.2.1, 60, .inl tx))] := ⟨_, rfl⟩
  rw [← hAe] at hD ⊢
  have hS : va_S A s.heap s.heap [] := va_S.rf
  obtain ⟨H, hHe⟩ : ∃ H, H = s.heap := ⟨_, rfl⟩
  obtain ⟨locs, hle⟩ : ∃ q : List Loc, q = [] := ⟨_, rfl⟩
  rw [← hle] at hS ⊢
  have hP : va_P G.1 vwCl [(ob, .inr (6, [.ref a1, .ref a2, .ref a3, .int (nI n), .ref a4, .int kp, .ref a5, .int (nI len), .int thr, .int (nI spot), .int (b2 (bd = true)), .int lt, .int one, .int two, .int wh, .long hash])), (a1, .inl (G.2.1, 97, .inl f)), (a2, .inl (G.2.1, 97, .inl th)), (a3, .inl (G.2.1, 582, .inl pa)), (a4, .inl (G.2.1, 97, .inl sn)), (a5, .inl (G.2.1, 60, .inl tx))] H := by rw [hHe]; exact hP
  replace hS : va_S A s.heap H locs := by rw [hHe]; exact hS
  refine tH hHe ?_
  have w_0 : ∀ w ∈ u_ws RX6 TX6 16, w ∈ wsX6_isOrder := by decide +kernel
  have w_1 := hts (.fieldLink RX6 122 "CableFerryModel" "spot" "I") (by decide +kernel)
  have w_2 := hts (.fieldLink RX6 119 "CableFerryModel" "length" "I") (by decide +kernel)
  have w_3 := hts (.fieldLink RX6 22 "CableFerryModel" "text" "[I") (by decide +kernel)
  have w_4 := hts (.fieldLink RX6 136 "CableFerryModel" "letter" "I") (by decide +kernel)
  have w_5 := hts (.fieldLink RX6 139 "CableFerryModel" "one" "I") (by decide +kernel)
  have w_6 := hts (.fieldLink RX6 142 "CableFerryModel" "two" "I") (by decide +kernel)
  have hl60 := htx.1
  have hsl : spot < len := by unfold lC at hL; split at hL <;> omega
  have hLt : nn tx spot = 117 := by unfold lC at hL; rw [if_pos hsl] at hL; exact hL
  refine lv_aload_n hx hb dX6_isOrder_0 rfl (lv_at hl 0 rfl) ?_
  refine lv_aload_n hx hb dX6_isOrder_1 rfl (lv_at hl 0 rfl) ?_
  refine va_get (D := G.1) (ci := 6) (v := .int (nI spot)) (C := RX6) (T := TX6) (N := 16) hx hb hts w_0 hown hE.1 hP 0 rfl rfl 9 (by decide) w_1 (fun _ h9 => h9) rfl dX6_isOrder_2 ?_
  refine lv_aload_n hx hb dX6_isOrder_5 rfl (lv_at hl 0 rfl) ?_
  refine va_get (D := G.1) (ci := 6) (v := .int (nI len)) (C := RX6) (T := TX6) (N := 16) hx hb hts w_0 hown hE.1 hP 0 rfl rfl 7 (by decide) w_2 (fun _ h9 => h9) rfl dX6_isOrder_6 ?_
  refine icmp_geN (tgt := 24) hx hb (by omega) (by omega) dX6_isOrder_9 (by decide) (fun c9 => ?_) (fun c9 => ?_)
  · skip
    omega
  · skip
    refine lv_aload_n hx hb dX6_isOrder_12 rfl (lv_at hl 0 rfl) ?_
    refine va_get (D := G.1) (ci := 6) (v := .ref a5) (C := RX6) (T := TX6) (N := 16) hx hb hts w_0 hown hE.1 hP 0 rfl rfl 6 (by decide) w_3 (fun _ h9 => h9) rfl dX6_isOrder_13 ?_
    refine lv_aload_n hx hb dX6_isOrder_16 rfl (lv_at hl 0 rfl) ?_
    refine va_get (D := G.1) (ci := 6) (v := .int (nI spot)) (C := RX6) (T := TX6) (N := 16) hx hb hts w_0 hown hE.1 hP 0 rfl rfl 9 (by decide) w_1 (fun _ h9 => h9) rfl dX6_isOrder_17 ?_
    refine ialdN (k := spot) hx hb hE.1 hP 5 0 rfl rfl (by omega) (by decide) dX6_isOrder_20 ?_
    refine tI (y := nI 117) ((htx.2 _ hsl).1.trans (by rw [hLt])) ?_
    refine lv_goto (tgt := 25) hx hb dX6_isOrder_21 (by decide) ?_
    refine va_put (D := G.1) (ci := 6) (v := .int (nI 117)) (ty := .int) (C := RX6) (T := TX6) (N := 16) hx hb hts w_0 tyX6 tyX6_ok nmX6 hown hE.1 hP hD hS 0 rfl rfl 11 (by decide) w_4 (fun _ h9 => h9) rfl (by decide +kernel) rfl rfl (Nat.le_of_ble_eq_true rfl) dX6_isOrder_25 (fun H locs hP hD hS => ?_)
    have hP : va_P G.1 vwCl [(ob, .inr (6, [.ref a1, .ref a2, .ref a3, .int (nI n), .ref a4, .int kp, .ref a5, .int (nI len), .int thr, .int (nI spot), .int (b2 (bd = true)), .int (nI 117), .int one, .int two, .int wh, .long hash])), (a1, .inl (G.2.1, 97, .inl f)), (a2, .inl (G.2.1, 97, .inl th)), (a3, .inl (G.2.1, 582, .inl pa)), (a4, .inl (G.2.1, 97, .inl sn)), (a5, .inl (G.2.1, 60, .inl tx))] H := hP
    have hD : va_D A [(ob, .inr (6, [.ref a1, .ref a2, .ref a3, .int (nI n), .ref a4, .int kp, .ref a5, .int (nI len), .int thr, .int (nI spot), .int (b2 (bd = true)), .int (nI 117), .int one, .int two, .int wh, .long hash])), (a1, .inl (G.2.1, 97, .inl f)), (a2, .inl (G.2.1, 97, .inl th)), (a3, .inl (G.2.1, 582, .inl pa)), (a4, .inl (G.2.1, 97, .inl sn)), (a5, .inl (G.2.1, 60, .inl tx))] := hD
    refine lv_aload_n hx hb dX6_isOrder_28 rfl (lv_at hl 0 rfl) ?_
    refine va_get (D := G.1) (ci := 6) (v := .int (nI 117)) (C := RX6) (T := TX6) (N := 16) hx hb hts w_0 hown hE.1 hP 0 rfl rfl 11 (by decide) w_4 (fun _ h9 => h9) rfl dX6_isOrder_29 ?_
    refine lv_bipush (v := nI 97) hx hb dX6_isOrder_32 (by decide +kernel) ?_
    refine icmp_eqN (tgt := 82) hx hb (by omega) (by omega) dX6_isOrder_34 (by decide) (fun c34 => ?_) (fun c34 => ?_)
    · skip
      omega
    · skip
      refine lv_aload_n hx hb dX6_isOrder_37 rfl (lv_at hl 0 rfl) ?_
      refine va_get (D := G.1) (ci := 6) (v := .int (nI 117)) (C := RX6) (T := TX6) (N := 16) hx hb hts w_0 hown hE.1 hP 0 rfl rfl 11 (by decide) w_4 (fun _ h9 => h9) rfl dX6_isOrder_38 ?_
      refine lv_bipush (v := nI 108) hx hb dX6_isOrder_41 (by decide +kernel) ?_
      refine icmp_eqN (tgt := 82) hx hb (by omega) (by omega) dX6_isOrder_43 (by decide) (fun c43 => ?_) (fun c43 => ?_)
      · skip
        omega
      · skip
        refine lv_aload_n hx hb dX6_isOrder_46 rfl (lv_at hl 0 rfl) ?_
        refine va_get (D := G.1) (ci := 6) (v := .int (nI 117)) (C := RX6) (T := TX6) (N := 16) hx hb hts w_0 hown hE.1 hP 0 rfl rfl 11 (by decide) w_4 (fun _ h9 => h9) rfl dX6_isOrder_47 ?_
        refine lv_bipush (v := nI 117) hx hb dX6_isOrder_50 (by decide +kernel) ?_
        refine icmp_eqN (tgt := 82) hx hb (by omega) (by omega) dX6_isOrder_52 (by decide) (fun c52 => ?_) (fun c52 => ?_)
        · skip
          refine lv_iconst (v := nI 1) hx hb dX6_isOrder_82 (by decide +kernel) ?_
          refine lv_goto (tgt := 87) hx hb dX6_isOrder_83 (by decide) ?_
          refine lv_istore_n (lv' := [(1, .int (nI 1)), (0, .ref ob)]) hx hb dX6_isOrder_87 rfl hl (by decide) rfl (fun ls hl => ?_)
          refine lv_iload_n hx hb dX6_isOrder_88 rfl (lv_at hl 0 rfl) ?_
          refine lv_if_ne (tgt := 114) hx hb dX6_isOrder_89 (by decide) (fun c89 => ?_) (fun c89 => ?_)
          · skip
            refine lv_aload_n hx hb dX6_isOrder_114 rfl (lv_at hl 1 rfl) ?_
            refine lv_dup hx hb dX6_isOrder_115 rfl ?_
            refine va_get (D := G.1) (ci := 6) (v := .int (nI spot)) (C := RX6) (T := TX6) (N := 16) hx hb hts w_0 hown hE.1 hP 0 rfl rfl 9 (by decide) w_1 (fun _ h9 => h9) rfl dX6_isOrder_116 ?_
            refine lv_iconst (v := nI 1) hx hb dX6_isOrder_119 (by decide +kernel) ?_
            refine iaddN hx hb dX6_isOrder_120 ?_
            refine va_put (D := G.1) (ci := 6) (v := .int (nI (spot + 1))) (ty := .int) (C := RX6) (T := TX6) (N := 16) hx hb hts w_0 tyX6 tyX6_ok nmX6 hown hE.1 hP hD hS 0 rfl rfl 9 (by decide) w_1 (fun _ h9 => h9) rfl (by decide +kernel) rfl rfl (Nat.le_of_ble_eq_true rfl) dX6_isOrder_121 (fun H locs hP hD hS => ?_)
            have hP : va_P G.1 vwCl [(ob, .inr (6, [.ref a1, .ref a2, .ref a3, .int (nI n), .ref a4, .int kp, .ref a5, .int (nI len), .int thr, .int (nI (spot + 1)), .int (b2 (bd = true)), .int (nI 117), .int one, .int two, .int wh, .long hash])), (a1, .inl (G.2.1, 97, .inl f)), (a2, .inl (G.2.1, 97, .inl th)), (a3, .inl (G.2.1, 582, .inl pa)), (a4, .inl (G.2.1, 97, .inl sn)), (a5, .inl (G.2.1, 60, .inl tx))] H := hP
            have hD : va_D A [(ob, .inr (6, [.ref a1, .ref a2, .ref a3, .int (nI n), .ref a4, .int kp, .ref a5, .int (nI len), .int thr, .int (nI (spot + 1)), .int (b2 (bd = true)), .int (nI 117), .int one, .int two, .int wh, .long hash])), (a1, .inl (G.2.1, 97, .inl f)), (a2, .inl (G.2.1, 97, .inl th)), (a3, .inl (G.2.1, 582, .inl pa)), (a4, .inl (G.2.1, 97, .inl sn)), (a5, .inl (G.2.1, 60, .inl tx))] := hD
            refine lv_aload_n hx hb dX6_isOrder_124 rfl (lv_at hl 1 rfl) ?_
            refine lv_iconst (v := nI 0) hx hb dX6_isOrder_125 (by decide +kernel) ?_
            refine va_put (D := G.1) (ci := 6) (v := .int (nI 0)) (ty := .int) (C := RX6) (T := TX6) (N := 16) hx hb hts w_0 tyX6 tyX6_ok nmX6 hown hE.1 hP hD hS 0 rfl rfl 12 (by decide) w_5 (fun _ h9 => h9) rfl (by decide +kernel) rfl rfl (Nat.le_of_ble_eq_true rfl) dX6_isOrder_126 (fun H locs hP hD hS => ?_)
            have hP : va_P G.1 vwCl [(ob, .inr (6, [.ref a1, .ref a2, .ref a3, .int (nI n), .ref a4, .int kp, .ref a5, .int (nI len), .int thr, .int (nI (spot + 1)), .int (b2 (bd = true)), .int (nI 117), .int (nI 0), .int two, .int wh, .long hash])), (a1, .inl (G.2.1, 97, .inl f)), (a2, .inl (G.2.1, 97, .inl th)), (a3, .inl (G.2.1, 582, .inl pa)), (a4, .inl (G.2.1, 97, .inl sn)), (a5, .inl (G.2.1, 60, .inl tx))] H := hP
            have hD : va_D A [(ob, .inr (6, [.ref a1, .ref a2, .ref a3, .int (nI n), .ref a4, .int kp, .ref a5, .int (nI len), .int thr, .int (nI (spot + 1)), .int (b2 (bd = true)), .int (nI 117), .int (nI 0), .int two, .int wh, .long hash])), (a1, .inl (G.2.1, 97, .inl f)), (a2, .inl (G.2.1, 97, .inl th)), (a3, .inl (G.2.1, 582, .inl pa)), (a4, .inl (G.2.1, 97, .inl sn)), (a5, .inl (G.2.1, 60, .inl tx))] := hD
            refine lv_aload_n hx hb dX6_isOrder_129 rfl (lv_at hl 1 rfl) ?_
            refine lv_iconst (v := nI 0) hx hb dX6_isOrder_130 (by decide +kernel) ?_
            refine va_put (D := G.1) (ci := 6) (v := .int (nI 0)) (ty := .int) (C := RX6) (T := TX6) (N := 16) hx hb hts w_0 tyX6 tyX6_ok nmX6 hown hE.1 hP hD hS 0 rfl rfl 13 (by decide) w_6 (fun _ h9 => h9) rfl (by decide +kernel) rfl rfl (Nat.le_of_ble_eq_true rfl) dX6_isOrder_131 (fun H locs hP hD hS => ?_)
            have hP : va_P G.1 vwCl [(ob, .inr (6, [.ref a1, .ref a2, .ref a3, .int (nI n), .ref a4, .int kp, .ref a5, .int (nI len), .int thr, .int (nI (spot + 1)), .int (b2 (bd = true)), .int (nI 117), .int (nI 0), .int (nI 0), .int wh, .long hash])), (a1, .inl (G.2.1, 97, .inl f)), (a2, .inl (G.2.1, 97, .inl th)), (a3, .inl (G.2.1, 582, .inl pa)), (a4, .inl (G.2.1, 97, .inl sn)), (a5, .inl (G.2.1, 60, .inl tx))] H := hP
            have hD : va_D A [(ob, .inr (6, [.ref a1, .ref a2, .ref a3, .int (nI n), .ref a4, .int kp, .ref a5, .int (nI len), .int thr, .int (nI (spot + 1)), .int (b2 (bd = true)), .int (nI 117), .int (nI 0), .int (nI 0), .int wh, .long hash])), (a1, .inl (G.2.1, 97, .inl f)), (a2, .inl (G.2.1, 97, .inl th)), (a3, .inl (G.2.1, 582, .inl pa)), (a4, .inl (G.2.1, 97, .inl sn)), (a5, .inl (G.2.1, 60, .inl tx))] := hD
            refine lv_aload_n hx hb dX6_isOrder_134 rfl (lv_at hl 1 rfl) ?_
            refine va_get (D := G.1) (ci := 6) (v := .int (nI 117)) (C := RX6) (T := TX6) (N := 16) hx hb hts w_0 hown hE.1 hP 0 rfl rfl 11 (by decide) w_4 (fun _ h9 => h9) rfl dX6_isOrder_135 ?_
            refine lv_bipush (v := nI 97) hx hb dX6_isOrder_138 (by decide +kernel) ?_
            refine icmp_eqN (tgt := 152) hx hb (by omega) (by omega) dX6_isOrder_140 (by decide) (fun c140 => ?_) (fun c140 => ?_)
            · skip
              omega
            · skip
              refine lv_aload_n hx hb dX6_isOrder_143 rfl (lv_at hl 1 rfl) ?_
              refine va_get (D := G.1) (ci := 6) (v := .int (nI 117)) (C := RX6) (T := TX6) (N := 16) hx hb hts w_0 hown hE.1 hP 0 rfl rfl 11 (by decide) w_4 (fun _ h9 => h9) rfl dX6_isOrder_144 ?_
              refine lv_bipush (v := nI 108) hx hb dX6_isOrder_147 (by decide +kernel) ?_
              refine icmp_neN (tgt := 164) hx hb (by omega) (by omega) dX6_isOrder_149 (by decide) (fun c149 => ?_) (fun c149 => ?_)
              · skip
                refine lv_aload_n hx hb dX6_isOrder_164 rfl (lv_at hl 1 rfl) ?_
                refine va_get (D := G.1) (ci := 6) (v := .int (nI 117)) (C := RX6) (T := TX6) (N := 16) hx hb hts w_0 hown hE.1 hP 0 rfl rfl 11 (by decide) w_4 (fun _ h9 => h9) rfl dX6_isOrder_165 ?_
                refine lv_bipush (v := nI 97) hx hb dX6_isOrder_168 (by decide +kernel) ?_
                refine icmp_neN (tgt := 207) hx hb (by omega) (by omega) dX6_isOrder_170 (by decide) (fun c170 => ?_) (fun c170 => ?_)
                · skip
                  refine lv_aload_n hx hb dX6_isOrder_207 rfl (lv_at hl 1 rfl) ?_
                  refine va_get (D := G.1) (ci := 6) (v := .int (nI 117)) (C := RX6) (T := TX6) (N := 16) hx hb hts w_0 hown hE.1 hP 0 rfl rfl 11 (by decide) w_4 (fun _ h9 => h9) rfl dX6_isOrder_208 ?_
                  refine lv_bipush (v := nI 119) hx hb dX6_isOrder_211 (by decide +kernel) ?_
                  refine icmp_eqN (tgt := 225) hx hb (by omega) (by omega) dX6_isOrder_213 (by decide) (fun c213 => ?_) (fun c213 => ?_)
                  · skip
                    omega
                  · skip
                    refine lv_aload_n hx hb dX6_isOrder_216 rfl (lv_at hl 1 rfl) ?_
                    refine va_get (D := G.1) (ci := 6) (v := .int (nI 117)) (C := RX6) (T := TX6) (N := 16) hx hb hts w_0 hown hE.1 hP 0 rfl rfl 11 (by decide) w_4 (fun _ h9 => h9) rfl dX6_isOrder_217 ?_
                    refine lv_bipush (v := nI 100) hx hb dX6_isOrder_220 (by decide +kernel) ?_
                    refine icmp_neN (tgt := 248) hx hb (by omega) (by omega) dX6_isOrder_222 (by decide) (fun c222 => ?_) (fun c222 => ?_)
                    · skip
                      refine lv_aload_n hx hb dX6_isOrder_248 rfl (lv_at hl 1 rfl) ?_
                      refine va_get (D := G.1) (ci := 6) (v := .int (nI 0)) (C := RX6) (T := TX6) (N := 16) hx hb hts w_0 hown hE.1 hP 0 rfl rfl 12 (by decide) w_5 (fun _ h9 => h9) rfl dX6_isOrder_249 ?_
                      refine lv_iconst (v := -1) hx hb dX6_isOrder_252 (by decide +kernel) ?_
                      refine lv_icmp_eq (tgt := 268) hx hb dX6_isOrder_253 (by decide) (fun c253 => ?_) (fun c253 => ?_)
                      · skip
                        exact absurd c253 (by decide +kernel)
                      · skip
                        refine lv_aload_n hx hb dX6_isOrder_256 rfl (lv_at hl 1 rfl) ?_
                        refine va_get (D := G.1) (ci := 6) (v := .int (nI 0)) (C := RX6) (T := TX6) (N := 16) hx hb hts w_0 hown hE.1 hP 0 rfl rfl 13 (by decide) w_6 (fun _ h9 => h9) rfl dX6_isOrder_257 ?_
                        refine lv_iconst (v := -1) hx hb dX6_isOrder_260 (by decide +kernel) ?_
                        refine lv_icmp_eq (tgt := 268) hx hb dX6_isOrder_261 (by decide) (fun c261 => ?_) (fun c261 => ?_)
                        · skip
                          exact absurd c261 (by decide +kernel)
                        · skip
                          refine lv_iconst (v := nI 1) hx hb dX6_isOrder_264 (by decide +kernel) ?_
                          refine lv_goto (tgt := 269) hx hb dX6_isOrder_265 (by decide) ?_
                          refine tS (st' := [.int (b2 (true = true))]) (congrArg (fun z => [Value.int z]) ((b2_t rfl).symm)) ?_
                          exact W.zret hx hb hr (b2_z _) (fun t ht hW => ⟨rfl, by rw [ht]; exact ⟨hP, hD⟩, hS.F ht⟩) hS.2.2 dX6_isOrder_269
                    · skip
                      omega
                · skip
                  omega
              · skip
                omega
          · skip
            exact absurd c89 (by decide)
        · skip
          omega
set_option maxHeartbeats 4000000 in
set_option maxRecDepth 100000 in
theorem c_X6_isOrder_x (l : Launch) (G : eG) (ob a1 a2 a3 a4 a5 : Nat) (f th pa sn tx : Nat → Int32) (n len spot : Nat) (kp thr bad lt one two wh : Int32) (hash : Int64) (htx : Tx tx len) (hsp : spot ≤ len) (bd : Bool) (hL : lC (nn tx) len spot = 120) : Met l yX6_isOrder wsX6_isOrder ({ frames := 4, cells := 0, slots := 0, locals := 200 }) (PC [.ref ob] G (fun H => va_P G.1 vwCl [(ob, .inr (6, [.ref a1, .ref a2, .ref a3, .int (nI n), .ref a4, .int kp, .ref a5, .int (nI len), .int thr, .int (nI spot), .int (b2 (bd = true)), .int lt, .int one, .int two, .int wh, .long hash])), (a1, .inl (G.2.1, 97, .inl f)), (a2, .inl (G.2.1, 97, .inl th)), (a3, .inl (G.2.1, 582, .inl pa)), (a4, .inl (G.2.1, 97, .inl sn)), (a5, .inl (G.2.1, 60, .inl tx))] H ∧ va_D (fun _ => True) [(ob, .inr (6, [.ref a1, .ref a2, .ref a3, .int (nI n), .ref a4, .int kp, .ref a5, .int (nI len), .int thr, .int (nI spot), .int (b2 (bd = true)), .int lt, .int one, .int two, .int wh, .long hash])), (a1, .inl (G.2.1, 97, .inl f)), (a2, .inl (G.2.1, 97, .inl th)), (a3, .inl (G.2.1, 582, .inl pa)), (a4, .inl (G.2.1, 97, .inl sn)), (a5, .inl (G.2.1, 60, .inl tx))])) (MV (some (.int (b2 (true = true)))) (fun H => va_P G.1 vwCl [(ob, .inr (6, [.ref a1, .ref a2, .ref a3, .int (nI n), .ref a4, .int kp, .ref a5, .int (nI len), .int thr, .int (nI (spot + 1)), .int (b2 (bd = true)), .int (nI 120), .int (nI 0), .int (nI 0), .int wh, .long hash])), (a1, .inl (G.2.1, 97, .inl f)), (a2, .inl (G.2.1, 97, .inl th)), (a3, .inl (G.2.1, 582, .inl pa)), (a4, .inl (G.2.1, 97, .inl sn)), (a5, .inl (G.2.1, 60, .inl tx))] H ∧ va_D (inW [(ob, .inr (6, [.ref a1, .ref a2, .ref a3, .int (nI n), .ref a4, .int kp, .ref a5, .int (nI len), .int thr, .int (nI spot), .int (b2 (bd = true)), .int lt, .int one, .int two, .int wh, .long hash])), (a1, .inl (G.2.1, 97, .inl f)), (a2, .inl (G.2.1, 97, .inl th)), (a3, .inl (G.2.1, 582, .inl pa)), (a4, .inl (G.2.1, 97, .inl sn)), (a5, .inl (G.2.1, 60, .inl tx))]) [(ob, .inr (6, [.ref a1, .ref a2, .ref a3, .int (nI n), .ref a4, .int kp, .ref a5, .int (nI len), .int thr, .int (nI (spot + 1)), .int (b2 (bd = true)), .int (nI 120), .int (nI 0), .int (nI 0), .int wh, .long hash])), (a1, .inl (G.2.1, 97, .inl f)), (a2, .inl (G.2.1, 97, .inl th)), (a3, .inl (G.2.1, 582, .inl pa)), (a4, .inl (G.2.1, 97, .inl sn)), (a5, .inl (G.2.1, 60, .inl tx))]) (inW [(ob, .inr (6, [.ref a1, .ref a2, .ref a3, .int (nI n), .ref a4, .int kp, .ref a5, .int (nI len), .int thr, .int (nI spot), .int (b2 (bd = true)), .int lt, .int one, .int two, .int wh, .long hash])), (a1, .inl (G.2.1, 97, .inl f)), (a2, .inl (G.2.1, 97, .inl th)), (a3, .inl (G.2.1, 582, .inl pa)), (a4, .inl (G.2.1, 97, .inl sn)), (a5, .inl (G.2.1, 60, .inl tx))])) 0 0 (inW [(ob, .inr (6, [.ref a1, .ref a2, .ref a3, .int (nI n), .ref a4, .int kp, .ref a5, .int (nI len), .int thr, .int (nI spot), .int (b2 (bd = true)), .int lt, .int one, .int two, .int wh, .long hash])), (a1, .inl (G.2.1, 97, .inl f)), (a2, .inl (G.2.1, 97, .inl th)), (a3, .inl (G.2.1, 582, .inl pa)), (a4, .inl (G.2.1, 97, .inl sn)), (a5, .inl (G.2.1, 60, .inl tx))]) := by
  refine ofB (cc := cX6_isOrder) (maxL := 2) (ret := (some .boolean)) (by decide) rfl (Nat.le_of_ble_eq_true rfl) ?_
  intro p e s m below meth c hx hb hr hlocks hml hown hin hts hE hI ls hl
  replace hown : s.vm.findClass RX6 = some m.cls := hown
  have hl : lv_has ls 2 [(0, .ref ob)] := hl
  obtain ⟨hP, hD0⟩ := hI
  have hD : va_D (inW [(ob, .inr (6, [.ref a1, .ref a2, .ref a3, .int (nI n), .ref a4, .int kp, .ref a5, .int (nI len), .int thr, .int (nI spot), .int (b2 (bd = true)), .int lt, .int one, .int two, .int wh, .long hash])), (a1, .inl (G.2.1, 97, .inl f)), (a2, .inl (G.2.1, 97, .inl th)), (a3, .inl (G.2.1, 582, .inl pa)), (a4, .inl (G.2.1, 97, .inl sn)), (a5, .inl (G.2.1, 60, .inl tx))]) [(ob, .inr (6, [.ref a1, .ref a2, .ref a3, .int (nI n), .ref a4, .int kp, .ref a5, .int (nI len), .int thr, .int (nI spot), .int (b2 (bd = true)), .int lt, .int one, .int two, .int wh, .long hash])), (a1, .inl (G.2.1, 97, .inl f)), (a2, .inl (G.2.1, 97, .inl th)), (a3, .inl (G.2.1, 582, .inl pa)), (a4, .inl (G.2.1, 97, .inl sn)), (a5, .inl (G.2.1, 60, .inl tx))] := D_self hD0
  obtain ⟨A, hAe⟩ : ∃ A, A = inW [(ob, .inr (6, [.ref a1, .ref a2, .ref a3, .int (nI n), .ref a4, .int kp, .ref a5, .int (nI len), .int thr, .int (nI spot), .int (b2 (bd = true)), .int lt, .int one, .int two, .int wh, .long hash])), (a1, .inl (G.2.1, 97, .inl f)), (a2, .inl (G.2.1, 97, .inl th)), (a3, .inl (G.2.1, 582, .inl pa)), (a4, .inl (G.2.1, 97, .inl sn)), (a5, .inl (G.2.1, 60, .inl tx))] := ⟨_, rfl⟩
  rw [← hAe] at hD ⊢
  have hS : va_S A s.heap s.heap [] := va_S.rf
  obtain ⟨H, hHe⟩ : ∃ H, H = s.heap := ⟨_, rfl⟩
  obtain ⟨locs, hle⟩ : ∃ q : List Loc, q = [] := ⟨_, rfl⟩
  rw [← hle] at hS ⊢
  have hP : va_P G.1 vwCl [(ob, .inr (6, [.ref a1, .ref a2, .ref a3, .int (nI n), .ref a4, .int kp, .ref a5, .int (nI len), .int thr, .int (nI spot), .int (b2 (bd = true)), .int lt, .int one, .int two, .int wh, .long hash])), (a1, .inl (G.2.1, 97, .inl f)), (a2, .inl (G.2.1, 97, .inl th)), (a3, .inl (G.2.1, 582, .inl pa)), (a4, .inl (G.2.1, 97, .inl sn)), (a5, .inl (G.2.1, 60, .inl tx))] H := by rw [hHe]; exact hP
  replace hS : va_S A s.heap H locs := by rw [hHe]; exact hS
  refine tH hHe ?_
  have w_0 : ∀ w ∈ u_ws RX6 TX6 16, w ∈ wsX6_isOrder := by decide +kernel
  have w_1 := hts (.fieldLink RX6 122 "CableFerryModel" "spot" "I") (by decide +kernel)
  have w_2 := hts (.fieldLink RX6 119 "CableFerryModel" "length" "I") (by decide +kernel)
  have w_3 := hts (.fieldLink RX6 22 "CableFerryModel" "text" "[I") (by decide +kernel)
  have w_4 := hts (.fieldLink RX6 136 "CableFerryModel" "letter" "I") (by decide +kernel)
  have w_5 := hts (.fieldLink RX6 139 "CableFerryModel" "one" "I") (by decide +kernel)
  have w_6 := hts (.fieldLink RX6 142 "CableFerryModel" "two" "I") (by decide +kernel)
  have hl60 := htx.1
  have hsl : spot < len := by unfold lC at hL; split at hL <;> omega
  have hLt : nn tx spot = 120 := by unfold lC at hL; rw [if_pos hsl] at hL; exact hL
  refine lv_aload_n hx hb dX6_isOrder_0 rfl (lv_at hl 0 rfl) ?_
  refine lv_aload_n hx hb dX6_isOrder_1 rfl (lv_at hl 0 rfl) ?_
  refine va_get (D := G.1) (ci := 6) (v := .int (nI spot)) (C := RX6) (T := TX6) (N := 16) hx hb hts w_0 hown hE.1 hP 0 rfl rfl 9 (by decide) w_1 (fun _ h9 => h9) rfl dX6_isOrder_2 ?_
  refine lv_aload_n hx hb dX6_isOrder_5 rfl (lv_at hl 0 rfl) ?_
  refine va_get (D := G.1) (ci := 6) (v := .int (nI len)) (C := RX6) (T := TX6) (N := 16) hx hb hts w_0 hown hE.1 hP 0 rfl rfl 7 (by decide) w_2 (fun _ h9 => h9) rfl dX6_isOrder_6 ?_
  refine icmp_geN (tgt := 24) hx hb (by omega) (by omega) dX6_isOrder_9 (by decide) (fun c9 => ?_) (fun c9 => ?_)
  · skip
    omega
  · skip
    refine lv_aload_n hx hb dX6_isOrder_12 rfl (lv_at hl 0 rfl) ?_
    refine va_get (D := G.1) (ci := 6) (v := .ref a5) (C := RX6) (T := TX6) (N := 16) hx hb hts w_0 hown hE.1 hP 0 rfl rfl 6 (by decide) w_3 (fun _ h9 => h9) rfl dX6_isOrder_13 ?_
    refine lv_aload_n hx hb dX6_isOrder_16 rfl (lv_at hl 0 rfl) ?_
    refine va_get (D := G.1) (ci := 6) (v := .int (nI spot)) (C := RX6) (T := TX6) (N := 16) hx hb hts w_0 hown hE.1 hP 0 rfl rfl 9 (by decide) w_1 (fun _ h9 => h9) rfl dX6_isOrder_17 ?_
    refine ialdN (k := spot) hx hb hE.1 hP 5 0 rfl rfl (by omega) (by decide) dX6_isOrder_20 ?_
    refine tI (y := nI 120) ((htx.2 _ hsl).1.trans (by rw [hLt])) ?_
    refine lv_goto (tgt := 25) hx hb dX6_isOrder_21 (by decide) ?_
    refine va_put (D := G.1) (ci := 6) (v := .int (nI 120)) (ty := .int) (C := RX6) (T := TX6) (N := 16) hx hb hts w_0 tyX6 tyX6_ok nmX6 hown hE.1 hP hD hS 0 rfl rfl 11 (by decide) w_4 (fun _ h9 => h9) rfl (by decide +kernel) rfl rfl (Nat.le_of_ble_eq_true rfl) dX6_isOrder_25 (fun H locs hP hD hS => ?_)
    have hP : va_P G.1 vwCl [(ob, .inr (6, [.ref a1, .ref a2, .ref a3, .int (nI n), .ref a4, .int kp, .ref a5, .int (nI len), .int thr, .int (nI spot), .int (b2 (bd = true)), .int (nI 120), .int one, .int two, .int wh, .long hash])), (a1, .inl (G.2.1, 97, .inl f)), (a2, .inl (G.2.1, 97, .inl th)), (a3, .inl (G.2.1, 582, .inl pa)), (a4, .inl (G.2.1, 97, .inl sn)), (a5, .inl (G.2.1, 60, .inl tx))] H := hP
    have hD : va_D A [(ob, .inr (6, [.ref a1, .ref a2, .ref a3, .int (nI n), .ref a4, .int kp, .ref a5, .int (nI len), .int thr, .int (nI spot), .int (b2 (bd = true)), .int (nI 120), .int one, .int two, .int wh, .long hash])), (a1, .inl (G.2.1, 97, .inl f)), (a2, .inl (G.2.1, 97, .inl th)), (a3, .inl (G.2.1, 582, .inl pa)), (a4, .inl (G.2.1, 97, .inl sn)), (a5, .inl (G.2.1, 60, .inl tx))] := hD
    refine lv_aload_n hx hb dX6_isOrder_28 rfl (lv_at hl 0 rfl) ?_
    refine va_get (D := G.1) (ci := 6) (v := .int (nI 120)) (C := RX6) (T := TX6) (N := 16) hx hb hts w_0 hown hE.1 hP 0 rfl rfl 11 (by decide) w_4 (fun _ h9 => h9) rfl dX6_isOrder_29 ?_
    refine lv_bipush (v := nI 97) hx hb dX6_isOrder_32 (by decide +kernel) ?_
    refine icmp_eqN (tgt := 82) hx hb (by omega) (by omega) dX6_isOrder_34 (by decide) (fun c34 => ?_) (fun c34 => ?_)
    · skip
      omega
    · skip
      refine lv_aload_n hx hb dX6_isOrder_37 rfl (lv_at hl 0 rfl) ?_
      refine va_get (D := G.1) (ci := 6) (v := .int (nI 120)) (C := RX6) (T := TX6) (N := 16) hx hb hts w_0 hown hE.1 hP 0 rfl rfl 11 (by decide) w_4 (fun _ h9 => h9) rfl dX6_isOrder_38 ?_
      refine lv_bipush (v := nI 108) hx hb dX6_isOrder_41 (by decide +kernel) ?_
      refine icmp_eqN (tgt := 82) hx hb (by omega) (by omega) dX6_isOrder_43 (by decide) (fun c43 => ?_) (fun c43 => ?_)
      · skip
        omega
      · skip
        refine lv_aload_n hx hb dX6_isOrder_46 rfl (lv_at hl 0 rfl) ?_
        refine va_get (D := G.1) (ci := 6) (v := .int (nI 120)) (C := RX6) (T := TX6) (N := 16) hx hb hts w_0 hown hE.1 hP 0 rfl rfl 11 (by decide) w_4 (fun _ h9 => h9) rfl dX6_isOrder_47 ?_
        refine lv_bipush (v := nI 117) hx hb dX6_isOrder_50 (by decide +kernel) ?_
        refine icmp_eqN (tgt := 82) hx hb (by omega) (by omega) dX6_isOrder_52 (by decide) (fun c52 => ?_) (fun c52 => ?_)
        · skip
          omega
        · skip
          refine lv_aload_n hx hb dX6_isOrder_55 rfl (lv_at hl 0 rfl) ?_
          refine va_get (D := G.1) (ci := 6) (v := .int (nI 120)) (C := RX6) (T := TX6) (N := 16) hx hb hts w_0 hown hE.1 hP 0 rfl rfl 11 (by decide) w_4 (fun _ h9 => h9) rfl dX6_isOrder_56 ?_
          refine lv_bipush (v := nI 120) hx hb dX6_isOrder_59 (by decide +kernel) ?_
          refine icmp_eqN (tgt := 82) hx hb (by omega) (by omega) dX6_isOrder_61 (by decide) (fun c61 => ?_) (fun c61 => ?_)
          · skip
            refine lv_iconst (v := nI 1) hx hb dX6_isOrder_82 (by decide +kernel) ?_
            refine lv_goto (tgt := 87) hx hb dX6_isOrder_83 (by decide) ?_
            refine lv_istore_n (lv' := [(1, .int (nI 1)), (0, .ref ob)]) hx hb dX6_isOrder_87 rfl hl (by decide) rfl (fun ls hl => ?_)
            refine lv_iload_n hx hb dX6_isOrder_88 rfl (lv_at hl 0 rfl) ?_
            refine lv_if_ne (tgt := 114) hx hb dX6_isOrder_89 (by decide) (fun c89 => ?_) (fun c89 => ?_)
            · skip
              refine lv_aload_n hx hb dX6_isOrder_114 rfl (lv_at hl 1 rfl) ?_
              refine lv_dup hx hb dX6_isOrder_115 rfl ?_
              refine va_get (D := G.1) (ci := 6) (v := .int (nI spot)) (C := RX6) (T := TX6) (N := 16) hx hb hts w_0 hown hE.1 hP 0 rfl rfl 9 (by decide) w_1 (fun _ h9 => h9) rfl dX6_isOrder_116 ?_
              refine lv_iconst (v := nI 1) hx hb dX6_isOrder_119 (by decide +kernel) ?_
              refine iaddN hx hb dX6_isOrder_120 ?_
              refine va_put (D := G.1) (ci := 6) (v := .int (nI (spot + 1))) (ty := .int) (C := RX6) (T := TX6) (N := 16) hx hb hts w_0 tyX6 tyX6_ok nmX6 hown hE.1 hP hD hS 0 rfl rfl 9 (by decide) w_1 (fun _ h9 => h9) rfl (by decide +kernel) rfl rfl (Nat.le_of_ble_eq_true rfl) dX6_isOrder_121 (fun H locs hP hD hS => ?_)
              have hP : va_P G.1 vwCl [(ob, .inr (6, [.ref a1, .ref a2, .ref a3, .int (nI n), .ref a4, .int kp, .ref a5, .int (nI len), .int thr, .int (nI (spot + 1)), .int (b2 (bd = true)), .int (nI 120), .int one, .int two, .int wh, .long hash])), (a1, .inl (G.2.1, 97, .inl f)), (a2, .inl (G.2.1, 97, .inl th)), (a3, .inl (G.2.1, 582, .inl pa)), (a4, .inl (G.2.1, 97, .inl sn)), (a5, .inl (G.2.1, 60, .inl tx))] H := hP
              have hD : va_D A [(ob, .inr (6, [.ref a1, .ref a2, .ref a3, .int (nI n), .ref a4, .int kp, .ref a5, .int (nI len), .int thr, .int (nI (spot + 1)), .int (b2 (bd = true)), .int (nI 120), .int one, .int two, .int wh, .long hash])), (a1, .inl (G.2.1, 97, .inl f)), (a2, .inl (G.2.1, 97, .inl th)), (a3, .inl (G.2.1, 582, .inl pa)), (a4, .inl (G.2.1, 97, .inl sn)), (a5, .inl (G.2.1, 60, .inl tx))] := hD
              refine lv_aload_n hx hb dX6_isOrder_124 rfl (lv_at hl 1 rfl) ?_
              refine lv_iconst (v := nI 0) hx hb dX6_isOrder_125 (by decide +kernel) ?_
              refine va_put (D := G.1) (ci := 6) (v := .int (nI 0)) (ty := .int) (C := RX6) (T := TX6) (N := 16) hx hb hts w_0 tyX6 tyX6_ok nmX6 hown hE.1 hP hD hS 0 rfl rfl 12 (by decide) w_5 (fun _ h9 => h9) rfl (by decide +kernel) rfl rfl (Nat.le_of_ble_eq_true rfl) dX6_isOrder_126 (fun H locs hP hD hS => ?_)
              have hP : va_P G.1 vwCl [(ob, .inr (6, [.ref a1, .ref a2, .ref a3, .int (nI n), .ref a4, .int kp, .ref a5, .int (nI len), .int thr, .int (nI (spot + 1)), .int (b2 (bd = true)), .int (nI 120), .int (nI 0), .int two, .int wh, .long hash])), (a1, .inl (G.2.1, 97, .inl f)), (a2, .inl (G.2.1, 97, .inl th)), (a3, .inl (G.2.1, 582, .inl pa)), (a4, .inl (G.2.1, 97, .inl sn)), (a5, .inl (G.2.1, 60, .inl tx))] H := hP
              have hD : va_D A [(ob, .inr (6, [.ref a1, .ref a2, .ref a3, .int (nI n), .ref a4, .int kp, .ref a5, .int (nI len), .int thr, .int (nI (spot + 1)), .int (b2 (bd = true)), .int (nI 120), .int (nI 0), .int two, .int wh, .long hash])), (a1, .inl (G.2.1, 97, .inl f)), (a2, .inl (G.2.1, 97, .inl th)), (a3, .inl (G.2.1, 582, .inl pa)), (a4, .inl (G.2.1, 97, .inl sn)), (a5, .inl (G.2.1, 60, .inl tx))] := hD
              refine lv_aload_n hx hb dX6_isOrder_129 rfl (lv_at hl 1 rfl) ?_
              refine lv_iconst (v := nI 0) hx hb dX6_isOrder_130 (by decide +kernel) ?_
              refine va_put (D := G.1) (ci := 6) (v := .int (nI 0)) (ty := .int) (C := RX6) (T := TX6) (N := 16) hx hb hts w_0 tyX6 tyX6_ok nmX6 hown hE.1 hP hD hS 0 rfl rfl 13 (by decide) w_6 (fun _ h9 => h9) rfl (by decide +kernel) rfl rfl (Nat.le_of_ble_eq_true rfl) dX6_isOrder_131 (fun H locs hP hD hS => ?_)
              have hP : va_P G.1 vwCl [(ob, .inr (6, [.ref a1, .ref a2, .ref a3, .int (nI n), .ref a4, .int kp, .ref a5, .int (nI len), .int thr, .int (nI (spot + 1)), .int (b2 (bd = true)), .int (nI 120), .int (nI 0), .int (nI 0), .int wh, .long hash])), (a1, .inl (G.2.1, 97, .inl f)), (a2, .inl (G.2.1, 97, .inl th)), (a3, .inl (G.2.1, 582, .inl pa)), (a4, .inl (G.2.1, 97, .inl sn)), (a5, .inl (G.2.1, 60, .inl tx))] H := hP
              have hD : va_D A [(ob, .inr (6, [.ref a1, .ref a2, .ref a3, .int (nI n), .ref a4, .int kp, .ref a5, .int (nI len), .int thr, .int (nI (spot + 1)), .int (b2 (bd = true)), .int (nI 120), .int (nI 0), .int (nI 0), .int wh, .long hash])), (a1, .inl (G.2.1, 97, .inl f)), (a2, .inl (G.2.1, 97, .inl th)), (a3, .inl (G.2.1, 582, .inl pa)), (a4, .inl (G.2.1, 97, .inl sn)), (a5, .inl (G.2.1, 60, .inl tx))] := hD
              refine lv_aload_n hx hb dX6_isOrder_134 rfl (lv_at hl 1 rfl) ?_
              refine va_get (D := G.1) (ci := 6) (v := .int (nI 120)) (C := RX6) (T := TX6) (N := 16) hx hb hts w_0 hown hE.1 hP 0 rfl rfl 11 (by decide) w_4 (fun _ h9 => h9) rfl dX6_isOrder_135 ?_
              refine lv_bipush (v := nI 97) hx hb dX6_isOrder_138 (by decide +kernel) ?_
              refine icmp_eqN (tgt := 152) hx hb (by omega) (by omega) dX6_isOrder_140 (by decide) (fun c140 => ?_) (fun c140 => ?_)
              · skip
                omega
              · skip
                refine lv_aload_n hx hb dX6_isOrder_143 rfl (lv_at hl 1 rfl) ?_
                refine va_get (D := G.1) (ci := 6) (v := .int (nI 120)) (C := RX6) (T := TX6) (N := 16) hx hb hts w_0 hown hE.1 hP 0 rfl rfl 11 (by decide) w_4 (fun _ h9 => h9) rfl dX6_isOrder_144 ?_
                refine lv_bipush (v := nI 108) hx hb dX6_isOrder_147 (by decide +kernel) ?_
                refine icmp_neN (tgt := 164) hx hb (by omega) (by omega) dX6_isOrder_149 (by decide) (fun c149 => ?_) (fun c149 => ?_)
                · skip
                  refine lv_aload_n hx hb dX6_isOrder_164 rfl (lv_at hl 1 rfl) ?_
                  refine va_get (D := G.1) (ci := 6) (v := .int (nI 120)) (C := RX6) (T := TX6) (N := 16) hx hb hts w_0 hown hE.1 hP 0 rfl rfl 11 (by decide) w_4 (fun _ h9 => h9) rfl dX6_isOrder_165 ?_
                  refine lv_bipush (v := nI 97) hx hb dX6_isOrder_168 (by decide +kernel) ?_
                  refine icmp_neN (tgt := 207) hx hb (by omega) (by omega) dX6_isOrder_170 (by decide) (fun c170 => ?_) (fun c170 => ?_)
                  · skip
                    refine lv_aload_n hx hb dX6_isOrder_207 rfl (lv_at hl 1 rfl) ?_
                    refine va_get (D := G.1) (ci := 6) (v := .int (nI 120)) (C := RX6) (T := TX6) (N := 16) hx hb hts w_0 hown hE.1 hP 0 rfl rfl 11 (by decide) w_4 (fun _ h9 => h9) rfl dX6_isOrder_208 ?_
                    refine lv_bipush (v := nI 119) hx hb dX6_isOrder_211 (by decide +kernel) ?_
                    refine icmp_eqN (tgt := 225) hx hb (by omega) (by omega) dX6_isOrder_213 (by decide) (fun c213 => ?_) (fun c213 => ?_)
                    · skip
                      omega
                    · skip
                      refine lv_aload_n hx hb dX6_isOrder_216 rfl (lv_at hl 1 rfl) ?_
                      refine va_get (D := G.1) (ci := 6) (v := .int (nI 120)) (C := RX6) (T := TX6) (N := 16) hx hb hts w_0 hown hE.1 hP 0 rfl rfl 11 (by decide) w_4 (fun _ h9 => h9) rfl dX6_isOrder_217 ?_
                      refine lv_bipush (v := nI 100) hx hb dX6_isOrder_220 (by decide +kernel) ?_
                      refine icmp_neN (tgt := 248) hx hb (by omega) (by omega) dX6_isOrder_222 (by decide) (fun c222 => ?_) (fun c222 => ?_)
                      · skip
                        refine lv_aload_n hx hb dX6_isOrder_248 rfl (lv_at hl 1 rfl) ?_
                        refine va_get (D := G.1) (ci := 6) (v := .int (nI 0)) (C := RX6) (T := TX6) (N := 16) hx hb hts w_0 hown hE.1 hP 0 rfl rfl 12 (by decide) w_5 (fun _ h9 => h9) rfl dX6_isOrder_249 ?_
                        refine lv_iconst (v := -1) hx hb dX6_isOrder_252 (by decide +kernel) ?_
                        refine lv_icmp_eq (tgt := 268) hx hb dX6_isOrder_253 (by decide) (fun c253 => ?_) (fun c253 => ?_)
                        · skip
                          exact absurd c253 (by decide +kernel)
                        · skip
                          refine lv_aload_n hx hb dX6_isOrder_256 rfl (lv_at hl 1 rfl) ?_
                          refine va_get (D := G.1) (ci := 6) (v := .int (nI 0)) (C := RX6) (T := TX6) (N := 16) hx hb hts w_0 hown hE.1 hP 0 rfl rfl 13 (by decide) w_6 (fun _ h9 => h9) rfl dX6_isOrder_257 ?_
                          refine lv_iconst (v := -1) hx hb dX6_isOrder_260 (by decide +kernel) ?_
                          refine lv_icmp_eq (tgt := 268) hx hb dX6_isOrder_261 (by decide) (fun c261 => ?_) (fun c261 => ?_)
                          · skip
                            exact absurd c261 (by decide +kernel)
                          · skip
                            refine lv_iconst (v := nI 1) hx hb dX6_isOrder_264 (by decide +kernel) ?_
                            refine lv_goto (tgt := 269) hx hb dX6_isOrder_265 (by decide) ?_
                            refine tS (st' := [.int (b2 (true = true))]) (congrArg (fun z => [Value.int z]) ((b2_t rfl).symm)) ?_
                            exact W.zret hx hb hr (b2_z _) (fun t ht hW => ⟨rfl, by rw [ht]; exact ⟨hP, hD⟩, hS.F ht⟩) hS.2.2 dX6_isOrder_269
                      · skip
                        omega
                  · skip
                    omega
                · skip
                  omega
            · skip
              exact absurd c89 (by decide)
          · skip
            omega
set_option maxHeartbeats 4000000 in
set_option maxRecDepth 100000 in
theorem c_X6_isOrder_w (l : Launch) (G : eG) (ob a1 a2 a3 a4 a5 : Nat) (f th pa sn tx : Nat → Int32) (n len spot : Nat) (kp thr bad lt one two wh : Int32) (hash : Int64) (htx : Tx tx len) (hsp : spot ≤ len) (bd : Bool) (hL : lC (nn tx) len spot = 119) : Met l yX6_isOrder wsX6_isOrder ({ frames := 4, cells := 0, slots := 0, locals := 200 }) (PC [.ref ob] G (fun H => va_P G.1 vwCl [(ob, .inr (6, [.ref a1, .ref a2, .ref a3, .int (nI n), .ref a4, .int kp, .ref a5, .int (nI len), .int thr, .int (nI spot), .int (b2 (bd = true)), .int lt, .int one, .int two, .int wh, .long hash])), (a1, .inl (G.2.1, 97, .inl f)), (a2, .inl (G.2.1, 97, .inl th)), (a3, .inl (G.2.1, 582, .inl pa)), (a4, .inl (G.2.1, 97, .inl sn)), (a5, .inl (G.2.1, 60, .inl tx))] H ∧ va_D (fun _ => True) [(ob, .inr (6, [.ref a1, .ref a2, .ref a3, .int (nI n), .ref a4, .int kp, .ref a5, .int (nI len), .int thr, .int (nI spot), .int (b2 (bd = true)), .int lt, .int one, .int two, .int wh, .long hash])), (a1, .inl (G.2.1, 97, .inl f)), (a2, .inl (G.2.1, 97, .inl th)), (a3, .inl (G.2.1, 582, .inl pa)), (a4, .inl (G.2.1, 97, .inl sn)), (a5, .inl (G.2.1, 60, .inl tx))])) (MV (some (.int (b2 ((nb (nn tx) len (spot + 1) 24).isSome = true)))) (fun H => va_P G.1 vwCl [(ob, .inr (6, [.ref a1, .ref a2, .ref a3, .int (nI n), .ref a4, .int kp, .ref a5, .int (nI len), .int thr, .int (nI (nbS (nn tx) len (spot + 1) 24)), .int (b2 (nbB (nn tx) len (spot + 1) 24 bd = true)), .int (nI 119), .int (ov (nb (nn tx) len (spot + 1) 24)), .int (nI 0), .int wh, .long hash])), (a1, .inl (G.2.1, 97, .inl f)), (a2, .inl (G.2.1, 97, .inl th)), (a3, .inl (G.2.1, 582, .inl pa)), (a4, .inl (G.2.1, 97, .inl sn)), (a5, .inl (G.2.1, 60, .inl tx))] H ∧ va_D (inW [(ob, .inr (6, [.ref a1, .ref a2, .ref a3, .int (nI n), .ref a4, .int kp, .ref a5, .int (nI len), .int thr, .int (nI spot), .int (b2 (bd = true)), .int lt, .int one, .int two, .int wh, .long hash])), (a1, .inl (G.2.1, 97, .inl f)), (a2, .inl (G.2.1, 97, .inl th)), (a3, .inl (G.2.1, 582, .inl pa)), (a4, .inl (G.2.1, 97, .inl sn)), (a5, .inl (G.2.1, 60, .inl tx))]) [(ob, .inr (6, [.ref a1, .ref a2, .ref a3, .int (nI n), .ref a4, .int kp, .ref a5, .int (nI len), .int thr, .int (nI (nbS (nn tx) len (spot + 1) 24)), .int (b2 (nbB (nn tx) len (spot + 1) 24 bd = true)), .int (nI 119), .int (ov (nb (nn tx) len (spot + 1) 24)), .int (nI 0), .int wh, .long hash])), (a1, .inl (G.2.1, 97, .inl f)), (a2, .inl (G.2.1, 97, .inl th)), (a3, .inl (G.2.1, 582, .inl pa)), (a4, .inl (G.2.1, 97, .inl sn)), (a5, .inl (G.2.1, 60, .inl tx))]) (inW [(ob, .inr (6, [.ref a1, .ref a2, .ref a3, .int (nI n), .ref a4, .int kp, .ref a5, .int (nI len), .int thr, .int (nI spot), .int (b2 (bd = true)), .int lt, .int one, .int two, .int wh, .long hash])), (a1, .inl (G.2.1, 97, .inl f)), (a2, .inl (G.2.1, 97, .inl th)), (a3, .inl (G.2.1, 582, .inl pa)), (a4, .inl (G.2.1, 97, .inl sn)), (a5, .inl (G.2.1, 60, .inl tx))])) 0 0 (inW [(ob, .inr (6, [.ref a1, .ref a2, .ref a3, .int (nI n), .ref a4, .int kp, .ref a5, .int (nI len), .int thr, .int (nI spot), .int (b2 (bd = true)), .int lt, .int one, .int two, .int wh, .long hash])), (a1, .inl (G.2.1, 97, .inl f)), (a2, .inl (G.2.1, 97, .inl th)), (a3, .inl (G.2.1, 582, .inl pa)), (a4, .inl (G.2.1, 97, .inl sn)), (a5, .inl (G.2.1, 60, .inl tx))]) := by
  refine ofB (cc := cX6_isOrder) (maxL := 2) (ret := (some .boolean)) (by decide) rfl (Nat.le_of_ble_eq_true rfl) ?_
  intro p e s m below meth c hx hb hr hlocks hml hown hin hts hE hI ls hl
  replace hown : s.vm.findClass RX6 = some m.cls := hown
  have hl : lv_has ls 2 [(0, .ref ob)] := hl
  obtain ⟨hP, hD0⟩ := hI
  have hD : va_D (inW [(ob, .inr (6, [.ref a1, .ref a2, .ref a3, .int (nI n), .ref a4, .int kp, .ref a5, .int (nI len), .int thr, .int (nI spot), .int (b2 (bd = true)), .int lt, .int one, .int two, .int wh, .long hash])), (a1, .inl (G.2.1, 97, .inl f)), (a2, .inl (G.2.1, 97, .inl th)), (a3, .inl (G.2.1, 582, .inl pa)), (a4, .inl (G.2.1, 97, .inl sn)), (a5, .inl (G.2.1, 60, .inl tx))]) [(ob, .inr (6, [.ref a1, .ref a2, .ref a3, .int (nI n), .ref a4, .int kp, .ref a5, .int (nI len), .int thr, .int (nI spot), .int (b2 (bd = true)), .int lt, .int one, .int two, .int wh, .long hash])), (a1, .inl (G.2.1, 97, .inl f)), (a2, .inl (G.2.1, 97, .inl th)), (a3, .inl (G.2.1, 582, .inl pa)), (a4, .inl (G.2.1, 97, .inl sn)), (a5, .inl (G.2.1, 60, .inl tx))] := D_self hD0
  obtain ⟨A, hAe⟩ : ∃ A, A = inW [(ob, .inr (6, [.ref a1, .ref a2, .ref a3, .int (nI n), .ref a4, .int kp, .ref a5, .int (nI len), .int thr, .int (nI spot), .int (b2 (bd = true)), .int lt, .int one, .int two, .int wh, .long hash])), (a1, .inl (G.2.1, 97, .inl f)), (a2, .inl (G.2.1, 97, .inl th)), (a3, .inl (G.2.1, 582, .inl pa)), (a4, .inl (G.2.1, 97, .inl sn)), (a5, .inl (G.2.1, 60, .inl tx))] := ⟨_, rfl⟩
  rw [← hAe] at hD ⊢
  have hS : va_S A s.heap s.heap [] := va_S.rf
  obtain ⟨H, hHe⟩ : ∃ H, H = s.heap := ⟨_, rfl⟩
  obtain ⟨locs, hle⟩ : ∃ q : List Loc, q = [] := ⟨_, rfl⟩
  rw [← hle] at hS ⊢
  have hP : va_P G.1 vwCl [(ob, .inr (6, [.ref a1, .ref a2, .ref a3, .int (nI n), .ref a4, .int kp, .ref a5, .int (nI len), .int thr, .int (nI spot), .int (b2 (bd = true)), .int lt, .int one, .int two, .int wh, .long hash])), (a1, .inl (G.2.1, 97, .inl f)), (a2, .inl (G.2.1, 97, .inl th)), (a3, .inl (G.2.1, 582, .inl pa)), (a4, .inl (G.2.1, 97, .inl sn)), (a5, .inl (G.2.1, 60, .inl tx))] H := by rw [hHe]; exact hP
  replace hS : va_S A s.heap H locs := by rw [hHe]; exact hS
  refine tH hHe ?_
  have w_0 : ∀ w ∈ u_ws RX6 TX6 16, w ∈ wsX6_isOrder := by decide +kernel
  have w_1 := hts (.fieldLink RX6 122 "CableFerryModel" "spot" "I") (by decide +kernel)
  have w_2 := hts (.fieldLink RX6 119 "CableFerryModel" "length" "I") (by decide +kernel)
  have w_3 := hts (.fieldLink RX6 22 "CableFerryModel" "text" "[I") (by decide +kernel)
  have w_4 := hts (.fieldLink RX6 136 "CableFerryModel" "letter" "I") (by decide +kernel)
  have w_5 := hts (.fieldLink RX6 139 "CableFerryModel" "one" "I") (by decide +kernel)
  have w_6 := hts (.fieldLink RX6 142 "CableFerryModel" "two" "I") (by decide +kernel)
  have hl60 := htx.1
  have hsl : spot < len := by unfold lC at hL; split at hL <;> omega
  have hLt : nn tx spot = 119 := by unfold lC at hL; rw [if_pos hsl] at hL; exact hL
  refine lv_aload_n hx hb dX6_isOrder_0 rfl (lv_at hl 0 rfl) ?_
  refine lv_aload_n hx hb dX6_isOrder_1 rfl (lv_at hl 0 rfl) ?_
  refine va_get (D := G.1) (ci := 6) (v := .int (nI spot)) (C := RX6) (T := TX6) (N := 16) hx hb hts w_0 hown hE.1 hP 0 rfl rfl 9 (by decide) w_1 (fun _ h9 => h9) rfl dX6_isOrder_2 ?_
  refine lv_aload_n hx hb dX6_isOrder_5 rfl (lv_at hl 0 rfl) ?_
  refine va_get (D := G.1) (ci := 6) (v := .int (nI len)) (C := RX6) (T := TX6) (N := 16) hx hb hts w_0 hown hE.1 hP 0 rfl rfl 7 (by decide) w_2 (fun _ h9 => h9) rfl dX6_isOrder_6 ?_
  refine icmp_geN (tgt := 24) hx hb (by omega) (by omega) dX6_isOrder_9 (by decide) (fun c9 => ?_) (fun c9 => ?_)
  · skip
    omega
  · skip
    refine lv_aload_n hx hb dX6_isOrder_12 rfl (lv_at hl 0 rfl) ?_
    refine va_get (D := G.1) (ci := 6) (v := .ref a5) (C := RX6) (T := TX6) (N := 16) hx hb hts w_0 hown hE.1 hP 0 rfl rfl 6 (by decide) w_3 (fun _ h9 => h9) rfl dX6_isOrder_13 ?_
    refine lv_aload_n hx hb dX6_isOrder_16 rfl (lv_at hl 0 rfl) ?_
    refine va_get (D := G.1) (ci := 6) (v := .int (nI spot)) (C := RX6) (T := TX6) (N := 16) hx hb hts w_0 hown hE.1 hP 0 rfl rfl 9 (by decide) w_1 (fun _ h9 => h9) rfl dX6_isOrder_17 ?_
    refine ialdN (k := spot) hx hb hE.1 hP 5 0 rfl rfl (by omega) (by decide) dX6_isOrder_20 ?_
    refine tI (y := nI 119) ((htx.2 _ hsl).1.trans (by rw [hLt])) ?_
    refine lv_goto (tgt := 25) hx hb dX6_isOrder_21 (by decide) ?_
    refine va_put (D := G.1) (ci := 6) (v := .int (nI 119)) (ty := .int) (C := RX6) (T := TX6) (N := 16) hx hb hts w_0 tyX6 tyX6_ok nmX6 hown hE.1 hP hD hS 0 rfl rfl 11 (by decide) w_4 (fun _ h9 => h9) rfl (by decide +kernel) rfl rfl (Nat.le_of_ble_eq_true rfl) dX6_isOrder_25 (fun H locs hP hD hS => ?_)
    have hP : va_P G.1 vwCl [(ob, .inr (6, [.ref a1, .ref a2, .ref a3, .int (nI n), .ref a4, .int kp, .ref a5, .int (nI len), .int thr, .int (nI spot), .int (b2 (bd = true)), .int (nI 119), .int one, .int two, .int wh, .long hash])), (a1, .inl (G.2.1, 97, .inl f)), (a2, .inl (G.2.1, 97, .inl th)), (a3, .inl (G.2.1, 582, .inl pa)), (a4, .inl (G.2.1, 97, .inl sn)), (a5, .inl (G.2.1, 60, .inl tx))] H := hP
    have hD : va_D A [(ob, .inr (6, [.ref a1, .ref a2, .ref a3, .int (nI n), .ref a4, .int kp, .ref a5, .int (nI len), .int thr, .int (nI spot), .int (b2 (bd = true)), .int (nI 119), .int one, .int two, .int wh, .long hash])), (a1, .inl (G.2.1, 97, .inl f)), (a2, .inl (G.2.1, 97, .inl th)), (a3, .inl (G.2.1, 582, .inl pa)), (a4, .inl (G.2.1, 97, .inl sn)), (a5, .inl (G.2.1, 60, .inl tx))] := hD
    refine lv_aload_n hx hb dX6_isOrder_28 rfl (lv_at hl 0 rfl) ?_
    refine va_get (D := G.1) (ci := 6) (v := .int (nI 119)) (C := RX6) (T := TX6) (N := 16) hx hb hts w_0 hown hE.1 hP 0 rfl rfl 11 (by decide) w_4 (fun _ h9 => h9) rfl dX6_isOrder_29 ?_
    refine lv_bipush (v := nI 97) hx hb dX6_isOrder_32 (by decide +kernel) ?_
    refine icmp_eqN (tgt := 82) hx hb (by omega) (by omega) dX6_isOrder_34 (by decide) (fun c34 => ?_) (fun c34 => ?_)
    · skip
      omega
    · skip
      refine lv_aload_n hx hb dX6_isOrder_37 rfl (lv_at hl 0 rfl) ?_
      refine va_get (D := G.1) (ci := 6) (v := .int (nI 119)) (C := RX6) (T := TX6) (N := 16) hx hb hts w_0 hown hE.1 hP 0 rfl rfl 11 (by decide) w_4 (fun _ h9 => h9) rfl dX6_isOrder_38 ?_
      refine lv_bipush (v := nI 108) hx hb dX6_isOrder_41 (by decide +kernel) ?_
      refine icmp_eqN (tgt := 82) hx hb (by omega) (by omega) dX6_isOrder_43 (by decide) (fun c43 => ?_) (fun c43 => ?_)
      · skip
        omega
      · skip
        refine lv_aload_n hx hb dX6_isOrder_46 rfl (lv_at hl 0 rfl) ?_
        refine va_get (D := G.1) (ci := 6) (v := .int (nI 119)) (C := RX6) (T := TX6) (N := 16) hx hb hts w_0 hown hE.1 hP 0 rfl rfl 11 (by decide) w_4 (fun _ h9 => h9) rfl dX6_isOrder_47 ?_
        refine lv_bipush (v := nI 117) hx hb dX6_isOrder_50 (by decide +kernel) ?_
        refine icmp_eqN (tgt := 82) hx hb (by omega) (by omega) dX6_isOrder_52 (by decide) (fun c52 => ?_) (fun c52 => ?_)
        · skip
          omega
        · skip
          refine lv_aload_n hx hb dX6_isOrder_55 rfl (lv_at hl 0 rfl) ?_
          refine va_get (D := G.1) (ci := 6) (v := .int (nI 119)) (C := RX6) (T := TX6) (N := 16) hx hb hts w_0 hown hE.1 hP 0 rfl rfl 11 (by decide) w_4 (fun _ h9 => h9) rfl dX6_isOrder_56 ?_
          refine lv_bipush (v := nI 120) hx hb dX6_isOrder_59 (by decide +kernel) ?_
          refine icmp_eqN (tgt := 82) hx hb (by omega) (by omega) dX6_isOrder_61 (by decide) (fun c61 => ?_) (fun c61 => ?_)
          · skip
            omega
          · skip
            refine lv_aload_n hx hb dX6_isOrder_64 rfl (lv_at hl 0 rfl) ?_
            refine va_get (D := G.1) (ci := 6) (v := .int (nI 119)) (C := RX6) (T := TX6) (N := 16) hx hb hts w_0 hown hE.1 hP 0 rfl rfl 11 (by decide) w_4 (fun _ h9 => h9) rfl dX6_isOrder_65 ?_
            refine lv_bipush (v := nI 119) hx hb dX6_isOrder_68 (by decide +kernel) ?_
            refine icmp_eqN (tgt := 82) hx hb (by omega) (by omega) dX6_isOrder_70 (by decide) (fun c70 => ?_) (fun c70 => ?_)
            · skip
              refine lv_iconst (v := nI 1) hx hb dX6_isOrder_82 (by decide +kernel) ?_
              refine lv_goto (tgt := 87) hx hb dX6_isOrder_83 (by decide) ?_
              refine lv_istore_n (lv' := [(1, .int (nI 1)), (0, .ref ob)]) hx hb dX6_isOrder_87 rfl hl (by decide) rfl (fun ls hl => ?_)
              refine lv_iload_n hx hb dX6_isOrder_88 rfl (lv_at hl 0 rfl) ?_
              refine lv_if_ne (tgt := 114) hx hb dX6_isOrder_89 (by decide) (fun c89 => ?_) (fun c89 => ?_)
              · skip
                refine lv_aload_n hx hb dX6_isOrder_114 rfl (lv_at hl 1 rfl) ?_
                refine lv_dup hx hb dX6_isOrder_115 rfl ?_
                refine va_get (D := G.1) (ci := 6) (v := .int (nI spot)) (C := RX6) (T := TX6) (N := 16) hx hb hts w_0 hown hE.1 hP 0 rfl rfl 9 (by decide) w_1 (fun _ h9 => h9) rfl dX6_isOrder_116 ?_
                refine lv_iconst (v := nI 1) hx hb dX6_isOrder_119 (by decide +kernel) ?_
                refine iaddN hx hb dX6_isOrder_120 ?_
                refine va_put (D := G.1) (ci := 6) (v := .int (nI (spot + 1))) (ty := .int) (C := RX6) (T := TX6) (N := 16) hx hb hts w_0 tyX6 tyX6_ok nmX6 hown hE.1 hP hD hS 0 rfl rfl 9 (by decide) w_1 (fun _ h9 => h9) rfl (by decide +kernel) rfl rfl (Nat.le_of_ble_eq_true rfl) dX6_isOrder_121 (fun H locs hP hD hS => ?_)
                have hP : va_P G.1 vwCl [(ob, .inr (6, [.ref a1, .ref a2, .ref a3, .int (nI n), .ref a4, .int kp, .ref a5, .int (nI len), .int thr, .int (nI (spot + 1)), .int (b2 (bd = true)), .int (nI 119), .int one, .int two, .int wh, .long hash])), (a1, .inl (G.2.1, 97, .inl f)), (a2, .inl (G.2.1, 97, .inl th)), (a3, .inl (G.2.1, 582, .inl pa)), (a4, .inl (G.2.1, 97, .inl sn)), (a5, .inl (G.2.1, 60, .inl tx))] H := hP
                have hD : va_D A [(ob, .inr (6, [.ref a1, .ref a2, .ref a3, .int (nI n), .ref a4, .int kp, .ref a5, .int (nI len), .int thr, .int (nI (spot + 1)), .int (b2 (bd = true)), .int (nI 119), .int one, .int two, .int wh, .long hash])), (a1, .inl (G.2.1, 97, .inl f)), (a2, .inl (G.2.1, 97, .inl th)), (a3, .inl (G.2.1, 582, .inl pa)), (a4, .inl (G.2.1, 97, .inl sn)), (a5, .inl (G.2.1, 60, .inl tx))] := hD
                refine lv_aload_n hx hb dX6_isOrder_124 rfl (lv_at hl 1 rfl) ?_
                refine lv_iconst (v := nI 0) hx hb dX6_isOrder_125 (by decide +kernel) ?_
                refine va_put (D := G.1) (ci := 6) (v := .int (nI 0)) (ty := .int) (C := RX6) (T := TX6) (N := 16) hx hb hts w_0 tyX6 tyX6_ok nmX6 hown hE.1 hP hD hS 0 rfl rfl 12 (by decide) w_5 (fun _ h9 => h9) rfl (by decide +kernel) rfl rfl (Nat.le_of_ble_eq_true rfl) dX6_isOrder_126 (fun H locs hP hD hS => ?_)
                have hP : va_P G.1 vwCl [(ob, .inr (6, [.ref a1, .ref a2, .ref a3, .int (nI n), .ref a4, .int kp, .ref a5, .int (nI len), .int thr, .int (nI (spot + 1)), .int (b2 (bd = true)), .int (nI 119), .int (nI 0), .int two, .int wh, .long hash])), (a1, .inl (G.2.1, 97, .inl f)), (a2, .inl (G.2.1, 97, .inl th)), (a3, .inl (G.2.1, 582, .inl pa)), (a4, .inl (G.2.1, 97, .inl sn)), (a5, .inl (G.2.1, 60, .inl tx))] H := hP
                have hD : va_D A [(ob, .inr (6, [.ref a1, .ref a2, .ref a3, .int (nI n), .ref a4, .int kp, .ref a5, .int (nI len), .int thr, .int (nI (spot + 1)), .int (b2 (bd = true)), .int (nI 119), .int (nI 0), .int two, .int wh, .long hash])), (a1, .inl (G.2.1, 97, .inl f)), (a2, .inl (G.2.1, 97, .inl th)), (a3, .inl (G.2.1, 582, .inl pa)), (a4, .inl (G.2.1, 97, .inl sn)), (a5, .inl (G.2.1, 60, .inl tx))] := hD
                refine lv_aload_n hx hb dX6_isOrder_129 rfl (lv_at hl 1 rfl) ?_
                refine lv_iconst (v := nI 0) hx hb dX6_isOrder_130 (by decide +kernel) ?_
                refine va_put (D := G.1) (ci := 6) (v := .int (nI 0)) (ty := .int) (C := RX6) (T := TX6) (N := 16) hx hb hts w_0 tyX6 tyX6_ok nmX6 hown hE.1 hP hD hS 0 rfl rfl 13 (by decide) w_6 (fun _ h9 => h9) rfl (by decide +kernel) rfl rfl (Nat.le_of_ble_eq_true rfl) dX6_isOrder_131 (fun H locs hP hD hS => ?_)
                have hP : va_P G.1 vwCl [(ob, .inr (6, [.ref a1, .ref a2, .ref a3, .int (nI n), .ref a4, .int kp, .ref a5, .int (nI len), .int thr, .int (nI (spot + 1)), .int (b2 (bd = true)), .int (nI 119), .int (nI 0), .int (nI 0), .int wh, .long hash])), (a1, .inl (G.2.1, 97, .inl f)), (a2, .inl (G.2.1, 97, .inl th)), (a3, .inl (G.2.1, 582, .inl pa)), (a4, .inl (G.2.1, 97, .inl sn)), (a5, .inl (G.2.1, 60, .inl tx))] H := hP
                have hD : va_D A [(ob, .inr (6, [.ref a1, .ref a2, .ref a3, .int (nI n), .ref a4, .int kp, .ref a5, .int (nI len), .int thr, .int (nI (spot + 1)), .int (b2 (bd = true)), .int (nI 119), .int (nI 0), .int (nI 0), .int wh, .long hash])), (a1, .inl (G.2.1, 97, .inl f)), (a2, .inl (G.2.1, 97, .inl th)), (a3, .inl (G.2.1, 582, .inl pa)), (a4, .inl (G.2.1, 97, .inl sn)), (a5, .inl (G.2.1, 60, .inl tx))] := hD
                refine lv_aload_n hx hb dX6_isOrder_134 rfl (lv_at hl 1 rfl) ?_
                refine va_get (D := G.1) (ci := 6) (v := .int (nI 119)) (C := RX6) (T := TX6) (N := 16) hx hb hts w_0 hown hE.1 hP 0 rfl rfl 11 (by decide) w_4 (fun _ h9 => h9) rfl dX6_isOrder_135 ?_
                refine lv_bipush (v := nI 97) hx hb dX6_isOrder_138 (by decide +kernel) ?_
                refine icmp_eqN (tgt := 152) hx hb (by omega) (by omega) dX6_isOrder_140 (by decide) (fun c140 => ?_) (fun c140 => ?_)
                · skip
                  omega
                · skip
                  refine lv_aload_n hx hb dX6_isOrder_143 rfl (lv_at hl 1 rfl) ?_
                  refine va_get (D := G.1) (ci := 6) (v := .int (nI 119)) (C := RX6) (T := TX6) (N := 16) hx hb hts w_0 hown hE.1 hP 0 rfl rfl 11 (by decide) w_4 (fun _ h9 => h9) rfl dX6_isOrder_144 ?_
                  refine lv_bipush (v := nI 108) hx hb dX6_isOrder_147 (by decide +kernel) ?_
                  refine icmp_neN (tgt := 164) hx hb (by omega) (by omega) dX6_isOrder_149 (by decide) (fun c149 => ?_) (fun c149 => ?_)
                  · skip
                    refine lv_aload_n hx hb dX6_isOrder_164 rfl (lv_at hl 1 rfl) ?_
                    refine va_get (D := G.1) (ci := 6) (v := .int (nI 119)) (C := RX6) (T := TX6) (N := 16) hx hb hts w_0 hown hE.1 hP 0 rfl rfl 11 (by decide) w_4 (fun _ h9 => h9) rfl dX6_isOrder_165 ?_
                    refine lv_bipush (v := nI 97) hx hb dX6_isOrder_168 (by decide +kernel) ?_
                    refine icmp_neN (tgt := 207) hx hb (by omega) (by omega) dX6_isOrder_170 (by decide) (fun c170 => ?_) (fun c170 => ?_)
                    · skip
                      refine lv_aload_n hx hb dX6_isOrder_207 rfl (lv_at hl 1 rfl) ?_
                      refine va_get (D := G.1) (ci := 6) (v := .int (nI 119)) (C := RX6) (T := TX6) (N := 16) hx hb hts w_0 hown hE.1 hP 0 rfl rfl 11 (by decide) w_4 (fun _ h9 => h9) rfl dX6_isOrder_208 ?_
                      refine lv_bipush (v := nI 119) hx hb dX6_isOrder_211 (by decide +kernel) ?_
                      refine icmp_eqN (tgt := 225) hx hb (by omega) (by omega) dX6_isOrder_213 (by decide) (fun c213 => ?_) (fun c213 => ?_)
                      · skip
                        refine lv_aload_n hx hb dX6_isOrder_225 rfl (lv_at hl 1 rfl) ?_
                        refine lv_aload_n hx hb dX6_isOrder_226 rfl (lv_at hl 1 rfl) ?_
                        refine lv_aload_n hx hb dX6_isOrder_227 rfl (lv_at hl 1 rfl) ?_
                        refine va_get (D := G.1) (ci := 6) (v := .int (nI 119)) (C := RX6) (T := TX6) (N := 16) hx hb hts w_0 hown hE.1 hP 0 rfl rfl 11 (by decide) w_4 (fun _ h9 => h9) rfl dX6_isOrder_228 ?_
                        refine lv_bipush (v := nI 119) hx hb dX6_isOrder_231 (by decide +kernel) ?_
                        refine icmp_neN (tgt := 241) hx hb (by omega) (by omega) dX6_isOrder_233 (by decide) (fun c233 => ?_) (fun c233 => ?_)
                        · skip
                          omega
                        · skip
                          refine lv_bipush (v := nI 24) hx hb dX6_isOrder_236 (by decide +kernel) ?_
                          refine lv_goto (tgt := 242) hx hb dX6_isOrder_238 (by decide) ?_
                          have hPc := hP.sub (ws' := [(ob, .inr (6, [.ref a1, .ref a2, .ref a3, .int (nI n), .ref a4, .int kp, .ref a5, .int (nI len), .int thr, .int (nI (spot + 1)), .int (b2 (bd = true)), .int (nI 119), .int (nI 0), .int (nI 0), .int wh, .long hash])), (a1, .inl (G.2.1, 97, .inl f)), (a2, .inl (G.2.1, 97, .inl th)), (a3, .inl (G.2.1, 582, .inl pa)), (a4, .inl (G.2.1, 97, .inl sn)), (a5, .inl (G.2.1, 60, .inl tx))]) [0, 1, 2, 3, 4, 5] rfl
                          have hDc := hD.sub (ws' := [(ob, .inr (6, [.ref a1, .ref a2, .ref a3, .int (nI n), .ref a4, .int kp, .ref a5, .int (nI len), .int thr, .int (nI (spot + 1)), .int (b2 (bd = true)), .int (nI 119), .int (nI 0), .int (nI 0), .int wh, .long hash])), (a1, .inl (G.2.1, 97, .inl f)), (a2, .inl (G.2.1, 97, .inl th)), (a3, .inl (G.2.1, 582, .inl pa)), (a4, .inl (G.2.1, 97, .inl sn)), (a5, .inl (G.2.1, 60, .inl tx))]) [0, 1, 2, 3, 4, 5] (by decide) rfl
                          refine mcall (st1 := [.int (ov (nb (nn tx) len (spot + 1) 24)), .ref ob]) (va_runV (As := [.int (nI 24)]) (rest := [.ref ob]) ⟨hx, hb, hml, hown, hts⟩ (c_X6_number l G ob a1 a2 a3 a4 a5 f th pa sn tx n len (spot + 1) kp thr (b2 (bd = true)) (nI 119) (nI 0) (nI 0) wh hash htx (by omega) bd 24 (by omega)) (cwV 1 hts gX6_isOrder_X6_number rfl rfl rfl (by decide +kernel) ⟨Nat.le_of_ble_eq_true rfl, Nat.le_of_ble_eq_true rfl⟩) (PC.preV hE (va_recv hE.1 hP (ci := 6) (q0 := 0) rfl rfl) ⟨hPc, hDc.weaken (fun _ _ _ _ => trivial)⟩) rfl rfl hl.1 rfl (lv_room (Nat.le_of_ble_eq_true rfl)) dX6_isOrder_242 ⟨Nat.zero_le _, Nat.zero_le _⟩) hS (fun q _ h => inW_D hDc q h) (fun q h => inW_D hDc q h) rfl (fun H1 locs1 hB hz1 hk1 hS => ?_)
                          obtain ⟨hP1, hD1⟩ := hB
                          obtain ⟨hP, hD⟩ := jnW (wr := []) (w1 := [(ob, .inr (6, [.ref a1, .ref a2, .ref a3, .int (nI n), .ref a4, .int kp, .ref a5, .int (nI len), .int thr, .int (nI (nbS (nn tx) len (spot + 1) 24)), .int (b2 (nbB (nn tx) len (spot + 1) 24 bd = true)), .int (nI 119), .int (nI 0), .int (nI 0), .int wh, .long hash])), (a1, .inl (G.2.1, 97, .inl f)), (a2, .inl (G.2.1, 97, .inl th)), (a3, .inl (G.2.1, 582, .inl pa)), (a4, .inl (G.2.1, 97, .inl sn)), (a5, .inl (G.2.1, 60, .inl tx))]) hP hD [0, 1, 2, 3, 4, 5] [] rfl rfl (by decide) (by decide) hk1 hP1 hD1
                          generalize H1 = H at hP hS ⊢
                          have hP : va_P G.1 vwCl [(ob, .inr (6, [.ref a1, .ref a2, .ref a3, .int (nI n), .ref a4, .int kp, .ref a5, .int (nI len), .int thr, .int (nI (nbS (nn tx) len (spot + 1) 24)), .int (b2 (nbB (nn tx) len (spot + 1) 24 bd = true)), .int (nI 119), .int (nI 0), .int (nI 0), .int wh, .long hash])), (a1, .inl (G.2.1, 97, .inl f)), (a2, .inl (G.2.1, 97, .inl th)), (a3, .inl (G.2.1, 582, .inl pa)), (a4, .inl (G.2.1, 97, .inl sn)), (a5, .inl (G.2.1, 60, .inl tx))] H := hP
                          have hD : va_D A [(ob, .inr (6, [.ref a1, .ref a2, .ref a3, .int (nI n), .ref a4, .int kp, .ref a5, .int (nI len), .int thr, .int (nI (nbS (nn tx) len (spot + 1) 24)), .int (b2 (nbB (nn tx) len (spot + 1) 24 bd = true)), .int (nI 119), .int (nI 0), .int (nI 0), .int wh, .long hash])), (a1, .inl (G.2.1, 97, .inl f)), (a2, .inl (G.2.1, 97, .inl th)), (a3, .inl (G.2.1, 582, .inl pa)), (a4, .inl (G.2.1, 97, .inl sn)), (a5, .inl (G.2.1, 60, .inl tx))] := hD
                          refine va_put (D := G.1) (ci := 6) (v := .int (ov (nb (nn tx) len (spot + 1) 24))) (ty := .int) (C := RX6) (T := TX6) (N := 16) hx hb hts w_0 tyX6 tyX6_ok nmX6 hown hE.1 hP hD hS 0 rfl rfl 12 (by decide) w_5 (fun _ h9 => h9) rfl (by decide +kernel) rfl rfl (Nat.le_of_ble_eq_true rfl) dX6_isOrder_245 (fun H locs hP hD hS => ?_)
                          have hP : va_P G.1 vwCl [(ob, .inr (6, [.ref a1, .ref a2, .ref a3, .int (nI n), .ref a4, .int kp, .ref a5, .int (nI len), .int thr, .int (nI (nbS (nn tx) len (spot + 1) 24)), .int (b2 (nbB (nn tx) len (spot + 1) 24 bd = true)), .int (nI 119), .int (ov (nb (nn tx) len (spot + 1) 24)), .int (nI 0), .int wh, .long hash])), (a1, .inl (G.2.1, 97, .inl f)), (a2, .inl (G.2.1, 97, .inl th)), (a3, .inl (G.2.1, 582, .inl pa)), (a4, .inl (G.2.1, 97, .inl sn)), (a5, .inl (G.2.1, 60, .inl tx))] H := hP
                          have hD : va_D A [(ob, .inr (6, [.ref a1, .ref a2, .ref a3, .int (nI n), .ref a4, .int kp, .ref a5, .int (nI len), .int thr, .int (nI (nbS (nn tx) len (spot + 1) 24)), .int (b2 (nbB (nn tx) len (spot + 1) 24 bd = true)), .int (nI 119), .int (ov (nb (nn tx) len (spot + 1) 24)), .int (nI 0), .int wh, .long hash])), (a1, .inl (G.2.1, 97, .inl f)), (a2, .inl (G.2.1, 97, .inl th)), (a3, .inl (G.2.1, 582, .inl pa)), (a4, .inl (G.2.1, 97, .inl sn)), (a5, .inl (G.2.1, 60, .inl tx))] := hD
                          refine lv_aload_n hx hb dX6_isOrder_248 rfl (lv_at hl 1 rfl) ?_
                          refine va_get (D := G.1) (ci := 6) (v := .int (ov (nb (nn tx) len (spot + 1) 24))) (C := RX6) (T := TX6) (N := 16) hx hb hts w_0 hown hE.1 hP 0 rfl rfl 12 (by decide) w_5 (fun _ h9 => h9) rfl dX6_isOrder_249 ?_
                          refine lv_iconst (v := -1) hx hb dX6_isOrder_252 (by decide +kernel) ?_
                          refine lv_icmp_eq (tgt := 268) hx hb dX6_isOrder_253 (by decide) (fun c253 => ?_) (fun c253 => ?_)
                          · skip
                            rw [ov_m1 (fun v h => by have := nb_lt (by omega) v h; omega)] at c253
                            refine lv_iconst (v := nI 0) hx hb dX6_isOrder_268 (by decide +kernel) ?_
                            refine tS (st' := [.int (b2 ((nb (nn tx) len (spot + 1) 24).isSome = true))]) (congrArg (fun z => [Value.int z]) (by simp [b2, isSome_iff, c253])) ?_
                            exact W.zret hx hb hr (b2_z _) (fun t ht hW => ⟨rfl, by rw [ht]; exact ⟨hP, hD⟩, hS.F ht⟩) hS.2.2 dX6_isOrder_269
                          · skip
                            rw [ov_m1 (fun v h => by have := nb_lt (by omega) v h; omega)] at c253
                            refine lv_aload_n hx hb dX6_isOrder_256 rfl (lv_at hl 1 rfl) ?_
                            refine va_get (D := G.1) (ci := 6) (v := .int (nI 0)) (C := RX6) (T := TX6) (N := 16) hx hb hts w_0 hown hE.1 hP 0 rfl rfl 13 (by decide) w_6 (fun _ h9 => h9) rfl dX6_isOrder_257 ?_
                            refine lv_iconst (v := -1) hx hb dX6_isOrder_260 (by decide +kernel) ?_
                            refine lv_icmp_eq (tgt := 268) hx hb dX6_isOrder_261 (by decide) (fun c261 => ?_) (fun c261 => ?_)
                            · skip
                              exact absurd c261 (by decide +kernel)
                            · skip
                              refine lv_iconst (v := nI 1) hx hb dX6_isOrder_264 (by decide +kernel) ?_
                              refine lv_goto (tgt := 269) hx hb dX6_isOrder_265 (by decide) ?_
                              refine tS (st' := [.int (b2 ((nb (nn tx) len (spot + 1) 24).isSome = true))]) (congrArg (fun z => [Value.int z]) (by simp [b2, isSome_iff, c253])) ?_
                              exact W.zret hx hb hr (b2_z _) (fun t ht hW => ⟨rfl, by rw [ht]; exact ⟨hP, hD⟩, hS.F ht⟩) hS.2.2 dX6_isOrder_269
                      · skip
                        omega
                    · skip
                      omega
                  · skip
                    omega
              · skip
                exact absurd c89 (by decide)
            · skip
              omega
set_option maxHeartbeats 4000000 in
set_option maxRecDepth 100000 in
theorem c_X6_isOrder_d (l : Launch) (G : eG) (ob a1 a2 a3 a4 a5 : Nat) (f th pa sn tx : Nat → Int32) (n len spot : Nat) (kp thr bad lt one two wh : Int32) (hash : Int64) (htx : Tx tx len) (hsp : spot ≤ len) (bd : Bool) (hL : lC (nn tx) len spot = 100) : Met l yX6_isOrder wsX6_isOrder ({ frames := 4, cells := 0, slots := 0, locals := 200 }) (PC [.ref ob] G (fun H => va_P G.1 vwCl [(ob, .inr (6, [.ref a1, .ref a2, .ref a3, .int (nI n), .ref a4, .int kp, .ref a5, .int (nI len), .int thr, .int (nI spot), .int (b2 (bd = true)), .int lt, .int one, .int two, .int wh, .long hash])), (a1, .inl (G.2.1, 97, .inl f)), (a2, .inl (G.2.1, 97, .inl th)), (a3, .inl (G.2.1, 582, .inl pa)), (a4, .inl (G.2.1, 97, .inl sn)), (a5, .inl (G.2.1, 60, .inl tx))] H ∧ va_D (fun _ => True) [(ob, .inr (6, [.ref a1, .ref a2, .ref a3, .int (nI n), .ref a4, .int kp, .ref a5, .int (nI len), .int thr, .int (nI spot), .int (b2 (bd = true)), .int lt, .int one, .int two, .int wh, .long hash])), (a1, .inl (G.2.1, 97, .inl f)), (a2, .inl (G.2.1, 97, .inl th)), (a3, .inl (G.2.1, 582, .inl pa)), (a4, .inl (G.2.1, 97, .inl sn)), (a5, .inl (G.2.1, 60, .inl tx))])) (MV (some (.int (b2 ((nb (nn tx) len (spot + 1) 5).isSome = true)))) (fun H => va_P G.1 vwCl [(ob, .inr (6, [.ref a1, .ref a2, .ref a3, .int (nI n), .ref a4, .int kp, .ref a5, .int (nI len), .int thr, .int (nI (nbS (nn tx) len (spot + 1) 5)), .int (b2 (nbB (nn tx) len (spot + 1) 5 bd = true)), .int (nI 100), .int (ov (nb (nn tx) len (spot + 1) 5)), .int (nI 0), .int wh, .long hash])), (a1, .inl (G.2.1, 97, .inl f)), (a2, .inl (G.2.1, 97, .inl th)), (a3, .inl (G.2.1, 582, .inl pa)), (a4, .inl (G.2.1, 97, .inl sn)), (a5, .inl (G.2.1, 60, .inl tx))] H ∧ va_D (inW [(ob, .inr (6, [.ref a1, .ref a2, .ref a3, .int (nI n), .ref a4, .int kp, .ref a5, .int (nI len), .int thr, .int (nI spot), .int (b2 (bd = true)), .int lt, .int one, .int two, .int wh, .long hash])), (a1, .inl (G.2.1, 97, .inl f)), (a2, .inl (G.2.1, 97, .inl th)), (a3, .inl (G.2.1, 582, .inl pa)), (a4, .inl (G.2.1, 97, .inl sn)), (a5, .inl (G.2.1, 60, .inl tx))]) [(ob, .inr (6, [.ref a1, .ref a2, .ref a3, .int (nI n), .ref a4, .int kp, .ref a5, .int (nI len), .int thr, .int (nI (nbS (nn tx) len (spot + 1) 5)), .int (b2 (nbB (nn tx) len (spot + 1) 5 bd = true)), .int (nI 100), .int (ov (nb (nn tx) len (spot + 1) 5)), .int (nI 0), .int wh, .long hash])), (a1, .inl (G.2.1, 97, .inl f)), (a2, .inl (G.2.1, 97, .inl th)), (a3, .inl (G.2.1, 582, .inl pa)), (a4, .inl (G.2.1, 97, .inl sn)), (a5, .inl (G.2.1, 60, .inl tx))]) (inW [(ob, .inr (6, [.ref a1, .ref a2, .ref a3, .int (nI n), .ref a4, .int kp, .ref a5, .int (nI len), .int thr, .int (nI spot), .int (b2 (bd = true)), .int lt, .int one, .int two, .int wh, .long hash])), (a1, .inl (G.2.1, 97, .inl f)), (a2, .inl (G.2.1, 97, .inl th)), (a3, .inl (G.2.1, 582, .inl pa)), (a4, .inl (G.2.1, 97, .inl sn)), (a5, .inl (G.2.1, 60, .inl tx))])) 0 0 (inW [(ob, .inr (6, [.ref a1, .ref a2, .ref a3, .int (nI n), .ref a4, .int kp, .ref a5, .int (nI len), .int thr, .int (nI spot), .int (b2 (bd = true)), .int lt, .int one, .int two, .int wh, .long hash])), (a1, .inl (G.2.1, 97, .inl f)), (a2, .inl (G.2.1, 97, .inl th)), (a3, .inl (G.2.1, 582, .inl pa)), (a4, .inl (G.2.1, 97, .inl sn)), (a5, .inl (G.2.1, 60, .inl tx))]) := by
  refine ofB (cc := cX6_isOrder) (maxL := 2) (ret := (some .boolean)) (by decide) rfl (Nat.le_of_ble_eq_true rfl) ?_
  intro p e s m below meth c hx hb hr hlocks hml hown hin hts hE hI ls hl
  replace hown : s.vm.findClass RX6 = some m.cls := hown
  have hl : lv_has ls 2 [(0, .ref ob)] := hl
  obtain ⟨hP, hD0⟩ := hI
  have hD : va_D (inW [(ob, .inr (6, [.ref a1, .ref a2, .ref a3, .int (nI n), .ref a4, .int kp, .ref a5, .int (nI len), .int thr, .int (nI spot), .int (b2 (bd = true)), .int lt, .int one, .int two, .int wh, .long hash])), (a1, .inl (G.2.1, 97, .inl f)), (a2, .inl (G.2.1, 97, .inl th)), (a3, .inl (G.2.1, 582, .inl pa)), (a4, .inl (G.2.1, 97, .inl sn)), (a5, .inl (G.2.1, 60, .inl tx))]) [(ob, .inr (6, [.ref a1, .ref a2, .ref a3, .int (nI n), .ref a4, .int kp, .ref a5, .int (nI len), .int thr, .int (nI spot), .int (b2 (bd = true)), .int lt, .int one, .int two, .int wh, .long hash])), (a1, .inl (G.2.1, 97, .inl f)), (a2, .inl (G.2.1, 97, .inl th)), (a3, .inl (G.2.1, 582, .inl pa)), (a4, .inl (G.2.1, 97, .inl sn)), (a5, .inl (G.2.1, 60, .inl tx))] := D_self hD0
  obtain ⟨A, hAe⟩ : ∃ A, A = inW [(ob, .inr (6, [.ref a1, .ref a2, .ref a3, .int (nI n), .ref a4, .int kp, .ref a5, .int (nI len), .int thr, .int (nI spot), .int (b2 (bd = true)), .int lt, .int one, .int two, .int wh, .long hash])), (a1, .inl (G.2.1, 97, .inl f)), (a2, .inl (G.2.1, 97, .inl th)), (a3, .inl (G.2.1, 582, .inl pa)), (a4, .inl (G.2.1, 97, .inl sn)), (a5, .inl (G.2.1, 60, .inl tx))] := ⟨_, rfl⟩
  rw [← hAe] at hD ⊢
  have hS : va_S A s.heap s.heap [] := va_S.rf
  obtain ⟨H, hHe⟩ : ∃ H, H = s.heap := ⟨_, rfl⟩
  obtain ⟨locs, hle⟩ : ∃ q : List Loc, q = [] := ⟨_, rfl⟩
  rw [← hle] at hS ⊢
  have hP : va_P G.1 vwCl [(ob, .inr (6, [.ref a1, .ref a2, .ref a3, .int (nI n), .ref a4, .int kp, .ref a5, .int (nI len), .int thr, .int (nI spot), .int (b2 (bd = true)), .int lt, .int one, .int two, .int wh, .long hash])), (a1, .inl (G.2.1, 97, .inl f)), (a2, .inl (G.2.1, 97, .inl th)), (a3, .inl (G.2.1, 582, .inl pa)), (a4, .inl (G.2.1, 97, .inl sn)), (a5, .inl (G.2.1, 60, .inl tx))] H := by rw [hHe]; exact hP
  replace hS : va_S A s.heap H locs := by rw [hHe]; exact hS
  refine tH hHe ?_
  have w_0 : ∀ w ∈ u_ws RX6 TX6 16, w ∈ wsX6_isOrder := by decide +kernel
  have w_1 := hts (.fieldLink RX6 122 "CableFerryModel" "spot" "I") (by decide +kernel)
  have w_2 := hts (.fieldLink RX6 119 "CableFerryModel" "length" "I") (by decide +kernel)
  have w_3 := hts (.fieldLink RX6 22 "CableFerryModel" "text" "[I") (by decide +kernel)
  have w_4 := hts (.fieldLink RX6 136 "CableFerryModel" "letter" "I") (by decide +kernel)
  have w_5 := hts (.fieldLink RX6 139 "CableFerryModel" "one" "I") (by decide +kernel)
  have w_6 := hts (.fieldLink RX6 142 "CableFerryModel" "two" "I") (by decide +kernel)
  have hl60 := htx.1
  have hsl : spot < len := by unfold lC at hL; split at hL <;> omega
  have hLt : nn tx spot = 100 := by unfold lC at hL; rw [if_pos hsl] at hL; exact hL
  refine lv_aload_n hx hb dX6_isOrder_0 rfl (lv_at hl 0 rfl) ?_
  refine lv_aload_n hx hb dX6_isOrder_1 rfl (lv_at hl 0 rfl) ?_
  refine va_get (D := G.1) (ci := 6) (v := .int (nI spot)) (C := RX6) (T := TX6) (N := 16) hx hb hts w_0 hown hE.1 hP 0 rfl rfl 9 (by decide) w_1 (fun _ h9 => h9) rfl dX6_isOrder_2 ?_
  refine lv_aload_n hx hb dX6_isOrder_5 rfl (lv_at hl 0 rfl) ?_
  refine va_get (D := G.1) (ci := 6) (v := .int (nI len)) (C := RX6) (T := TX6) (N := 16) hx hb hts w_0 hown hE.1 hP 0 rfl rfl 7 (by decide) w_2 (fun _ h9 => h9) rfl dX6_isOrder_6 ?_
  refine icmp_geN (tgt := 24) hx hb (by omega) (by omega) dX6_isOrder_9 (by decide) (fun c9 => ?_) (fun c9 => ?_)
  · skip
    omega
  · skip
    refine lv_aload_n hx hb dX6_isOrder_12 rfl (lv_at hl 0 rfl) ?_
    refine va_get (D := G.1) (ci := 6) (v := .ref a5) (C := RX6) (T := TX6) (N := 16) hx hb hts w_0 hown hE.1 hP 0 rfl rfl 6 (by decide) w_3 (fun _ h9 => h9) rfl dX6_isOrder_13 ?_
    refine lv_aload_n hx hb dX6_isOrder_16 rfl (lv_at hl 0 rfl) ?_
    refine va_get (D := G.1) (ci := 6) (v := .int (nI spot)) (C := RX6) (T := TX6) (N := 16) hx hb hts w_0 hown hE.1 hP 0 rfl rfl 9 (by decide) w_1 (fun _ h9 => h9) rfl dX6_isOrder_17 ?_
    refine ialdN (k := spot) hx hb hE.1 hP 5 0 rfl rfl (by omega) (by decide) dX6_isOrder_20 ?_
    refine tI (y := nI 100) ((htx.2 _ hsl).1.trans (by rw [hLt])) ?_
    refine lv_goto (tgt := 25) hx hb dX6_isOrder_21 (by decide) ?_
    refine va_put (D := G.1) (ci := 6) (v := .int (nI 100)) (ty := .int) (C := RX6) (T := TX6) (N := 16) hx hb hts w_0 tyX6 tyX6_ok nmX6 hown hE.1 hP hD hS 0 rfl rfl 11 (by decide) w_4 (fun _ h9 => h9) rfl (by decide +kernel) rfl rfl (Nat.le_of_ble_eq_true rfl) dX6_isOrder_25 (fun H locs hP hD hS => ?_)
    have hP : va_P G.1 vwCl [(ob, .inr (6, [.ref a1, .ref a2, .ref a3, .int (nI n), .ref a4, .int kp, .ref a5, .int (nI len), .int thr, .int (nI spot), .int (b2 (bd = true)), .int (nI 100), .int one, .int two, .int wh, .long hash])), (a1, .inl (G.2.1, 97, .inl f)), (a2, .inl (G.2.1, 97, .inl th)), (a3, .inl (G.2.1, 582, .inl pa)), (a4, .inl (G.2.1, 97, .inl sn)), (a5, .inl (G.2.1, 60, .inl tx))] H := hP
    have hD : va_D A [(ob, .inr (6, [.ref a1, .ref a2, .ref a3, .int (nI n), .ref a4, .int kp, .ref a5, .int (nI len), .int thr, .int (nI spot), .int (b2 (bd = true)), .int (nI 100), .int one, .int two, .int wh, .long hash])), (a1, .inl (G.2.1, 97, .inl f)), (a2, .inl (G.2.1, 97, .inl th)), (a3, .inl (G.2.1, 582, .inl pa)), (a4, .inl (G.2.1, 97, .inl sn)), (a5, .inl (G.2.1, 60, .inl tx))] := hD
    refine lv_aload_n hx hb dX6_isOrder_28 rfl (lv_at hl 0 rfl) ?_
    refine va_get (D := G.1) (ci := 6) (v := .int (nI 100)) (C := RX6) (T := TX6) (N := 16) hx hb hts w_0 hown hE.1 hP 0 rfl rfl 11 (by decide) w_4 (fun _ h9 => h9) rfl dX6_isOrder_29 ?_
    refine lv_bipush (v := nI 97) hx hb dX6_isOrder_32 (by decide +kernel) ?_
    refine icmp_eqN (tgt := 82) hx hb (by omega) (by omega) dX6_isOrder_34 (by decide) (fun c34 => ?_) (fun c34 => ?_)
    · skip
      omega
    · skip
      refine lv_aload_n hx hb dX6_isOrder_37 rfl (lv_at hl 0 rfl) ?_
      refine va_get (D := G.1) (ci := 6) (v := .int (nI 100)) (C := RX6) (T := TX6) (N := 16) hx hb hts w_0 hown hE.1 hP 0 rfl rfl 11 (by decide) w_4 (fun _ h9 => h9) rfl dX6_isOrder_38 ?_
      refine lv_bipush (v := nI 108) hx hb dX6_isOrder_41 (by decide +kernel) ?_
      refine icmp_eqN (tgt := 82) hx hb (by omega) (by omega) dX6_isOrder_43 (by decide) (fun c43 => ?_) (fun c43 => ?_)
      · skip
        omega
      · skip
        refine lv_aload_n hx hb dX6_isOrder_46 rfl (lv_at hl 0 rfl) ?_
        refine va_get (D := G.1) (ci := 6) (v := .int (nI 100)) (C := RX6) (T := TX6) (N := 16) hx hb hts w_0 hown hE.1 hP 0 rfl rfl 11 (by decide) w_4 (fun _ h9 => h9) rfl dX6_isOrder_47 ?_
        refine lv_bipush (v := nI 117) hx hb dX6_isOrder_50 (by decide +kernel) ?_
        refine icmp_eqN (tgt := 82) hx hb (by omega) (by omega) dX6_isOrder_52 (by decide) (fun c52 => ?_) (fun c52 => ?_)
        · skip
          omega
        · skip
          refine lv_aload_n hx hb dX6_isOrder_55 rfl (lv_at hl 0 rfl) ?_
          refine va_get (D := G.1) (ci := 6) (v := .int (nI 100)) (C := RX6) (T := TX6) (N := 16) hx hb hts w_0 hown hE.1 hP 0 rfl rfl 11 (by decide) w_4 (fun _ h9 => h9) rfl dX6_isOrder_56 ?_
          refine lv_bipush (v := nI 120) hx hb dX6_isOrder_59 (by decide +kernel) ?_
          refine icmp_eqN (tgt := 82) hx hb (by omega) (by omega) dX6_isOrder_61 (by decide) (fun c61 => ?_) (fun c61 => ?_)
          · skip
            omega
          · skip
            refine lv_aload_n hx hb dX6_isOrder_64 rfl (lv_at hl 0 rfl) ?_
            refine va_get (D := G.1) (ci := 6) (v := .int (nI 100)) (C := RX6) (T := TX6) (N := 16) hx hb hts w_0 hown hE.1 hP 0 rfl rfl 11 (by decide) w_4 (fun _ h9 => h9) rfl dX6_isOrder_65 ?_
            refine lv_bipush (v := nI 119) hx hb dX6_isOrder_68 (by decide +kernel) ?_
            refine icmp_eqN (tgt := 82) hx hb (by omega) (by omega) dX6_isOrder_70 (by decide) (fun c70 => ?_) (fun c70 => ?_)
            · skip
              omega
            · skip
              refine lv_aload_n hx hb dX6_isOrder_73 rfl (lv_at hl 0 rfl) ?_
              refine va_get (D := G.1) (ci := 6) (v := .int (nI 100)) (C := RX6) (T := TX6) (N := 16) hx hb hts w_0 hown hE.1 hP 0 rfl rfl 11 (by decide) w_4 (fun _ h9 => h9) rfl dX6_isOrder_74 ?_
              refine lv_bipush (v := nI 100) hx hb dX6_isOrder_77 (by decide +kernel) ?_
              refine icmp_neN (tgt := 86) hx hb (by omega) (by omega) dX6_isOrder_79 (by decide) (fun c79 => ?_) (fun c79 => ?_)
              · skip
                omega
              · skip
                refine lv_iconst (v := nI 1) hx hb dX6_isOrder_82 (by decide +kernel) ?_
                refine lv_goto (tgt := 87) hx hb dX6_isOrder_83 (by decide) ?_
                refine lv_istore_n (lv' := [(1, .int (nI 1)), (0, .ref ob)]) hx hb dX6_isOrder_87 rfl hl (by decide) rfl (fun ls hl => ?_)
                refine lv_iload_n hx hb dX6_isOrder_88 rfl (lv_at hl 0 rfl) ?_
                refine lv_if_ne (tgt := 114) hx hb dX6_isOrder_89 (by decide) (fun c89 => ?_) (fun c89 => ?_)
                · skip
                  refine lv_aload_n hx hb dX6_isOrder_114 rfl (lv_at hl 1 rfl) ?_
                  refine lv_dup hx hb dX6_isOrder_115 rfl ?_
                  refine va_get (D := G.1) (ci := 6) (v := .int (nI spot)) (C := RX6) (T := TX6) (N := 16) hx hb hts w_0 hown hE.1 hP 0 rfl rfl 9 (by decide) w_1 (fun _ h9 => h9) rfl dX6_isOrder_116 ?_
                  refine lv_iconst (v := nI 1) hx hb dX6_isOrder_119 (by decide +kernel) ?_
                  refine iaddN hx hb dX6_isOrder_120 ?_
                  refine va_put (D := G.1) (ci := 6) (v := .int (nI (spot + 1))) (ty := .int) (C := RX6) (T := TX6) (N := 16) hx hb hts w_0 tyX6 tyX6_ok nmX6 hown hE.1 hP hD hS 0 rfl rfl 9 (by decide) w_1 (fun _ h9 => h9) rfl (by decide +kernel) rfl rfl (Nat.le_of_ble_eq_true rfl) dX6_isOrder_121 (fun H locs hP hD hS => ?_)
                  have hP : va_P G.1 vwCl [(ob, .inr (6, [.ref a1, .ref a2, .ref a3, .int (nI n), .ref a4, .int kp, .ref a5, .int (nI len), .int thr, .int (nI (spot + 1)), .int (b2 (bd = true)), .int (nI 100), .int one, .int two, .int wh, .long hash])), (a1, .inl (G.2.1, 97, .inl f)), (a2, .inl (G.2.1, 97, .inl th)), (a3, .inl (G.2.1, 582, .inl pa)), (a4, .inl (G.2.1, 97, .inl sn)), (a5, .inl (G.2.1, 60, .inl tx))] H := hP
                  have hD : va_D A [(ob, .inr (6, [.ref a1, .ref a2, .ref a3, .int (nI n), .ref a4, .int kp, .ref a5, .int (nI len), .int thr, .int (nI (spot + 1)), .int (b2 (bd = true)), .int (nI 100), .int one, .int two, .int wh, .long hash])), (a1, .inl (G.2.1, 97, .inl f)), (a2, .inl (G.2.1, 97, .inl th)), (a3, .inl (G.2.1, 582, .inl pa)), (a4, .inl (G.2.1, 97, .inl sn)), (a5, .inl (G.2.1, 60, .inl tx))] := hD
                  refine lv_aload_n hx hb dX6_isOrder_124 rfl (lv_at hl 1 rfl) ?_
                  refine lv_iconst (v := nI 0) hx hb dX6_isOrder_125 (by decide +kernel) ?_
                  refine va_put (D := G.1) (ci := 6) (v := .int (nI 0)) (ty := .int) (C := RX6) (T := TX6) (N := 16) hx hb hts w_0 tyX6 tyX6_ok nmX6 hown hE.1 hP hD hS 0 rfl rfl 12 (by decide) w_5 (fun _ h9 => h9) rfl (by decide +kernel) rfl rfl (Nat.le_of_ble_eq_true rfl) dX6_isOrder_126 (fun H locs hP hD hS => ?_)
                  have hP : va_P G.1 vwCl [(ob, .inr (6, [.ref a1, .ref a2, .ref a3, .int (nI n), .ref a4, .int kp, .ref a5, .int (nI len), .int thr, .int (nI (spot + 1)), .int (b2 (bd = true)), .int (nI 100), .int (nI 0), .int two, .int wh, .long hash])), (a1, .inl (G.2.1, 97, .inl f)), (a2, .inl (G.2.1, 97, .inl th)), (a3, .inl (G.2.1, 582, .inl pa)), (a4, .inl (G.2.1, 97, .inl sn)), (a5, .inl (G.2.1, 60, .inl tx))] H := hP
                  have hD : va_D A [(ob, .inr (6, [.ref a1, .ref a2, .ref a3, .int (nI n), .ref a4, .int kp, .ref a5, .int (nI len), .int thr, .int (nI (spot + 1)), .int (b2 (bd = true)), .int (nI 100), .int (nI 0), .int two, .int wh, .long hash])), (a1, .inl (G.2.1, 97, .inl f)), (a2, .inl (G.2.1, 97, .inl th)), (a3, .inl (G.2.1, 582, .inl pa)), (a4, .inl (G.2.1, 97, .inl sn)), (a5, .inl (G.2.1, 60, .inl tx))] := hD
                  refine lv_aload_n hx hb dX6_isOrder_129 rfl (lv_at hl 1 rfl) ?_
                  refine lv_iconst (v := nI 0) hx hb dX6_isOrder_130 (by decide +kernel) ?_
                  refine va_put (D := G.1) (ci := 6) (v := .int (nI 0)) (ty := .int) (C := RX6) (T := TX6) (N := 16) hx hb hts w_0 tyX6 tyX6_ok nmX6 hown hE.1 hP hD hS 0 rfl rfl 13 (by decide) w_6 (fun _ h9 => h9) rfl (by decide +kernel) rfl rfl (Nat.le_of_ble_eq_true rfl) dX6_isOrder_131 (fun H locs hP hD hS => ?_)
                  have hP : va_P G.1 vwCl [(ob, .inr (6, [.ref a1, .ref a2, .ref a3, .int (nI n), .ref a4, .int kp, .ref a5, .int (nI len), .int thr, .int (nI (spot + 1)), .int (b2 (bd = true)), .int (nI 100), .int (nI 0), .int (nI 0), .int wh, .long hash])), (a1, .inl (G.2.1, 97, .inl f)), (a2, .inl (G.2.1, 97, .inl th)), (a3, .inl (G.2.1, 582, .inl pa)), (a4, .inl (G.2.1, 97, .inl sn)), (a5, .inl (G.2.1, 60, .inl tx))] H := hP
                  have hD : va_D A [(ob, .inr (6, [.ref a1, .ref a2, .ref a3, .int (nI n), .ref a4, .int kp, .ref a5, .int (nI len), .int thr, .int (nI (spot + 1)), .int (b2 (bd = true)), .int (nI 100), .int (nI 0), .int (nI 0), .int wh, .long hash])), (a1, .inl (G.2.1, 97, .inl f)), (a2, .inl (G.2.1, 97, .inl th)), (a3, .inl (G.2.1, 582, .inl pa)), (a4, .inl (G.2.1, 97, .inl sn)), (a5, .inl (G.2.1, 60, .inl tx))] := hD
                  refine lv_aload_n hx hb dX6_isOrder_134 rfl (lv_at hl 1 rfl) ?_
                  refine va_get (D := G.1) (ci := 6) (v := .int (nI 100)) (C := RX6) (T := TX6) (N := 16) hx hb hts w_0 hown hE.1 hP 0 rfl rfl 11 (by decide) w_4 (fun _ h9 => h9) rfl dX6_isOrder_135 ?_
                  refine lv_bipush (v := nI 97) hx hb dX6_isOrder_138 (by decide +kernel) ?_
                  refine icmp_eqN (tgt := 152) hx hb (by omega) (by omega) dX6_isOrder_140 (by decide) (fun c140 => ?_) (fun c140 => ?_)
                  · skip
                    omega
                  · skip
                    refine lv_aload_n hx hb dX6_isOrder_143 rfl (lv_at hl 1 rfl) ?_
                    refine va_get (D := G.1) (ci := 6) (v := .int (nI 100)) (C := RX6) (T := TX6) (N := 16) hx hb hts w_0 hown hE.1 hP 0 rfl rfl 11 (by decide) w_4 (fun _ h9 => h9) rfl dX6_isOrder_144 ?_
                    refine lv_bipush (v := nI 108) hx hb dX6_isOrder_147 (by decide +kernel) ?_
                    refine icmp_neN (tgt := 164) hx hb (by omega) (by omega) dX6_isOrder_149 (by decide) (fun c149 => ?_) (fun c149 => ?_)
                    · skip
                      refine lv_aload_n hx hb dX6_isOrder_164 rfl (lv_at hl 1 rfl) ?_
                      refine va_get (D := G.1) (ci := 6) (v := .int (nI 100)) (C := RX6) (T := TX6) (N := 16) hx hb hts w_0 hown hE.1 hP 0 rfl rfl 11 (by decide) w_4 (fun _ h9 => h9) rfl dX6_isOrder_165 ?_
                      refine lv_bipush (v := nI 97) hx hb dX6_isOrder_168 (by decide +kernel) ?_
                      refine icmp_neN (tgt := 207) hx hb (by omega) (by omega) dX6_isOrder_170 (by decide) (fun c170 => ?_) (fun c170 => ?_)
                      · skip
                        refine lv_aload_n hx hb dX6_isOrder_207 rfl (lv_at hl 1 rfl) ?_
                        refine va_get (D := G.1) (ci := 6) (v := .int (nI 100)) (C := RX6) (T := TX6) (N := 16) hx hb hts w_0 hown hE.1 hP 0 rfl rfl 11 (by decide) w_4 (fun _ h9 => h9) rfl dX6_isOrder_208 ?_
                        refine lv_bipush (v := nI 119) hx hb dX6_isOrder_211 (by decide +kernel) ?_
                        refine icmp_eqN (tgt := 225) hx hb (by omega) (by omega) dX6_isOrder_213 (by decide) (fun c213 => ?_) (fun c213 => ?_)
                        · skip
                          omega
                        · skip
                          refine lv_aload_n hx hb dX6_isOrder_216 rfl (lv_at hl 1 rfl) ?_
                          refine va_get (D := G.1) (ci := 6) (v := .int (nI 100)) (C := RX6) (T := TX6) (N := 16) hx hb hts w_0 hown hE.1 hP 0 rfl rfl 11 (by decide) w_4 (fun _ h9 => h9) rfl dX6_isOrder_217 ?_
                          refine lv_bipush (v := nI 100) hx hb dX6_isOrder_220 (by decide +kernel) ?_
                          refine icmp_neN (tgt := 248) hx hb (by omega) (by omega) dX6_isOrder_222 (by decide) (fun c222 => ?_) (fun c222 => ?_)
                          · skip
                            omega
                          · skip
                            refine lv_aload_n hx hb dX6_isOrder_225 rfl (lv_at hl 1 rfl) ?_
                            refine lv_aload_n hx hb dX6_isOrder_226 rfl (lv_at hl 1 rfl) ?_
                            refine lv_aload_n hx hb dX6_isOrder_227 rfl (lv_at hl 1 rfl) ?_
                            refine va_get (D := G.1) (ci := 6) (v := .int (nI 100)) (C := RX6) (T := TX6) (N := 16) hx hb hts w_0 hown hE.1 hP 0 rfl rfl 11 (by decide) w_4 (fun _ h9 => h9) rfl dX6_isOrder_228 ?_
                            refine lv_bipush (v := nI 119) hx hb dX6_isOrder_231 (by decide +kernel) ?_
                            refine icmp_neN (tgt := 241) hx hb (by omega) (by omega) dX6_isOrder_233 (by decide) (fun c233 => ?_) (fun c233 => ?_)
                            · skip
                              refine lv_iconst (v := nI 5) hx hb dX6_isOrder_241 (by decide +kernel) ?_
                              have hPc := hP.sub (ws' := [(ob, .inr (6, [.ref a1, .ref a2, .ref a3, .int (nI n), .ref a4, .int kp, .ref a5, .int (nI len), .int thr, .int (nI (spot + 1)), .int (b2 (bd = true)), .int (nI 100), .int (nI 0), .int (nI 0), .int wh, .long hash])), (a1, .inl (G.2.1, 97, .inl f)), (a2, .inl (G.2.1, 97, .inl th)), (a3, .inl (G.2.1, 582, .inl pa)), (a4, .inl (G.2.1, 97, .inl sn)), (a5, .inl (G.2.1, 60, .inl tx))]) [0, 1, 2, 3, 4, 5] rfl
                              have hDc := hD.sub (ws' := [(ob, .inr (6, [.ref a1, .ref a2, .ref a3, .int (nI n), .ref a4, .int kp, .ref a5, .int (nI len), .int thr, .int (nI (spot + 1)), .int (b2 (bd = true)), .int (nI 100), .int (nI 0), .int (nI 0), .int wh, .long hash])), (a1, .inl (G.2.1, 97, .inl f)), (a2, .inl (G.2.1, 97, .inl th)), (a3, .inl (G.2.1, 582, .inl pa)), (a4, .inl (G.2.1, 97, .inl sn)), (a5, .inl (G.2.1, 60, .inl tx))]) [0, 1, 2, 3, 4, 5] (by decide) rfl
                              refine mcall (st1 := [.int (ov (nb (nn tx) len (spot + 1) 5)), .ref ob]) (va_runV (As := [.int (nI 5)]) (rest := [.ref ob]) ⟨hx, hb, hml, hown, hts⟩ (c_X6_number l G ob a1 a2 a3 a4 a5 f th pa sn tx n len (spot + 1) kp thr (b2 (bd = true)) (nI 100) (nI 0) (nI 0) wh hash htx (by omega) bd 5 (by omega)) (cwV 1 hts gX6_isOrder_X6_number rfl rfl rfl (by decide +kernel) ⟨Nat.le_of_ble_eq_true rfl, Nat.le_of_ble_eq_true rfl⟩) (PC.preV hE (va_recv hE.1 hP (ci := 6) (q0 := 0) rfl rfl) ⟨hPc, hDc.weaken (fun _ _ _ _ => trivial)⟩) rfl rfl hl.1 rfl (lv_room (Nat.le_of_ble_eq_true rfl)) dX6_isOrder_242 ⟨Nat.zero_le _, Nat.zero_le _⟩) hS (fun q _ h => inW_D hDc q h) (fun q h => inW_D hDc q h) rfl (fun H1 locs1 hB hz1 hk1 hS => ?_)
                              obtain ⟨hP1, hD1⟩ := hB
                              obtain ⟨hP, hD⟩ := jnW (wr := []) (w1 := [(ob, .inr (6, [.ref a1, .ref a2, .ref a3, .int (nI n), .ref a4, .int kp, .ref a5, .int (nI len), .int thr, .int (nI (nbS (nn tx) len (spot + 1) 5)), .int (b2 (nbB (nn tx) len (spot + 1) 5 bd = true)), .int (nI 100), .int (nI 0), .int (nI 0), .int wh, .long hash])), (a1, .inl (G.2.1, 97, .inl f)), (a2, .inl (G.2.1, 97, .inl th)), (a3, .inl (G.2.1, 582, .inl pa)), (a4, .inl (G.2.1, 97, .inl sn)), (a5, .inl (G.2.1, 60, .inl tx))]) hP hD [0, 1, 2, 3, 4, 5] [] rfl rfl (by decide) (by decide) hk1 hP1 hD1
                              generalize H1 = H at hP hS ⊢
                              have hP : va_P G.1 vwCl [(ob, .inr (6, [.ref a1, .ref a2, .ref a3, .int (nI n), .ref a4, .int kp, .ref a5, .int (nI len), .int thr, .int (nI (nbS (nn tx) len (spot + 1) 5)), .int (b2 (nbB (nn tx) len (spot + 1) 5 bd = true)), .int (nI 100), .int (nI 0), .int (nI 0), .int wh, .long hash])), (a1, .inl (G.2.1, 97, .inl f)), (a2, .inl (G.2.1, 97, .inl th)), (a3, .inl (G.2.1, 582, .inl pa)), (a4, .inl (G.2.1, 97, .inl sn)), (a5, .inl (G.2.1, 60, .inl tx))] H := hP
                              have hD : va_D A [(ob, .inr (6, [.ref a1, .ref a2, .ref a3, .int (nI n), .ref a4, .int kp, .ref a5, .int (nI len), .int thr, .int (nI (nbS (nn tx) len (spot + 1) 5)), .int (b2 (nbB (nn tx) len (spot + 1) 5 bd = true)), .int (nI 100), .int (nI 0), .int (nI 0), .int wh, .long hash])), (a1, .inl (G.2.1, 97, .inl f)), (a2, .inl (G.2.1, 97, .inl th)), (a3, .inl (G.2.1, 582, .inl pa)), (a4, .inl (G.2.1, 97, .inl sn)), (a5, .inl (G.2.1, 60, .inl tx))] := hD
                              refine va_put (D := G.1) (ci := 6) (v := .int (ov (nb (nn tx) len (spot + 1) 5))) (ty := .int) (C := RX6) (T := TX6) (N := 16) hx hb hts w_0 tyX6 tyX6_ok nmX6 hown hE.1 hP hD hS 0 rfl rfl 12 (by decide) w_5 (fun _ h9 => h9) rfl (by decide +kernel) rfl rfl (Nat.le_of_ble_eq_true rfl) dX6_isOrder_245 (fun H locs hP hD hS => ?_)
                              have hP : va_P G.1 vwCl [(ob, .inr (6, [.ref a1, .ref a2, .ref a3, .int (nI n), .ref a4, .int kp, .ref a5, .int (nI len), .int thr, .int (nI (nbS (nn tx) len (spot + 1) 5)), .int (b2 (nbB (nn tx) len (spot + 1) 5 bd = true)), .int (nI 100), .int (ov (nb (nn tx) len (spot + 1) 5)), .int (nI 0), .int wh, .long hash])), (a1, .inl (G.2.1, 97, .inl f)), (a2, .inl (G.2.1, 97, .inl th)), (a3, .inl (G.2.1, 582, .inl pa)), (a4, .inl (G.2.1, 97, .inl sn)), (a5, .inl (G.2.1, 60, .inl tx))] H := hP
                              have hD : va_D A [(ob, .inr (6, [.ref a1, .ref a2, .ref a3, .int (nI n), .ref a4, .int kp, .ref a5, .int (nI len), .int thr, .int (nI (nbS (nn tx) len (spot + 1) 5)), .int (b2 (nbB (nn tx) len (spot + 1) 5 bd = true)), .int (nI 100), .int (ov (nb (nn tx) len (spot + 1) 5)), .int (nI 0), .int wh, .long hash])), (a1, .inl (G.2.1, 97, .inl f)), (a2, .inl (G.2.1, 97, .inl th)), (a3, .inl (G.2.1, 582, .inl pa)), (a4, .inl (G.2.1, 97, .inl sn)), (a5, .inl (G.2.1, 60, .inl tx))] := hD
                              refine lv_aload_n hx hb dX6_isOrder_248 rfl (lv_at hl 1 rfl) ?_
                              refine va_get (D := G.1) (ci := 6) (v := .int (ov (nb (nn tx) len (spot + 1) 5))) (C := RX6) (T := TX6) (N := 16) hx hb hts w_0 hown hE.1 hP 0 rfl rfl 12 (by decide) w_5 (fun _ h9 => h9) rfl dX6_isOrder_249 ?_
                              refine lv_iconst (v := -1) hx hb dX6_isOrder_252 (by decide +kernel) ?_
                              refine lv_icmp_eq (tgt := 268) hx hb dX6_isOrder_253 (by decide) (fun c253 => ?_) (fun c253 => ?_)
                              · skip
                                rw [ov_m1 (fun v h => by have := nb_lt (by omega) v h; omega)] at c253
                                refine lv_iconst (v := nI 0) hx hb dX6_isOrder_268 (by decide +kernel) ?_
                                refine tS (st' := [.int (b2 ((nb (nn tx) len (spot + 1) 5).isSome = true))]) (congrArg (fun z => [Value.int z]) (by simp [b2, isSome_iff, c253])) ?_
                                exact W.zret hx hb hr (b2_z _) (fun t ht hW => ⟨rfl, by rw [ht]; exact ⟨hP, hD⟩, hS.F ht⟩) hS.2.2 dX6_isOrder_269
                              · skip
                                rw [ov_m1 (fun v h => by have := nb_lt (by omega) v h; omega)] at c253
                                refine lv_aload_n hx hb dX6_isOrder_256 rfl (lv_at hl 1 rfl) ?_
                                refine va_get (D := G.1) (ci := 6) (v := .int (nI 0)) (C := RX6) (T := TX6) (N := 16) hx hb hts w_0 hown hE.1 hP 0 rfl rfl 13 (by decide) w_6 (fun _ h9 => h9) rfl dX6_isOrder_257 ?_
                                refine lv_iconst (v := -1) hx hb dX6_isOrder_260 (by decide +kernel) ?_
                                refine lv_icmp_eq (tgt := 268) hx hb dX6_isOrder_261 (by decide) (fun c261 => ?_) (fun c261 => ?_)
                                · skip
                                  exact absurd c261 (by decide +kernel)
                                · skip
                                  refine lv_iconst (v := nI 1) hx hb dX6_isOrder_264 (by decide +kernel) ?_
                                  refine lv_goto (tgt := 269) hx hb dX6_isOrder_265 (by decide) ?_
                                  refine tS (st' := [.int (b2 ((nb (nn tx) len (spot + 1) 5).isSome = true))]) (congrArg (fun z => [Value.int z]) (by simp [b2, isSome_iff, c253])) ?_
                                  exact W.zret hx hb hr (b2_z _) (fun t ht hW => ⟨rfl, by rw [ht]; exact ⟨hP, hD⟩, hS.F ht⟩) hS.2.2 dX6_isOrder_269
                            · skip
                              omega
                      · skip
                        omega
                    · skip
                      omega
                · skip
                  exact absurd c89 (by decide)
set_option maxHeartbeats 4000000 in
set_option maxRecDepth 100000 in
theorem c_X6_isOrder_n (l : Launch) (G : eG) (ob a1 a2 a3 a4 a5 : Nat) (f th pa sn tx : Nat → Int32) (n len spot : Nat) (kp thr bad lt one two wh : Int32) (hash : Int64) (htx : Tx tx len) (hsp : spot ≤ len) (bd : Bool) (hL : isL (lC (nn tx) len spot) = false) : Met l yX6_isOrder wsX6_isOrder ({ frames := 4, cells := 0, slots := 0, locals := 200 }) (PC [.ref ob] G (fun H => va_P G.1 vwCl [(ob, .inr (6, [.ref a1, .ref a2, .ref a3, .int (nI n), .ref a4, .int kp, .ref a5, .int (nI len), .int thr, .int (nI spot), .int (b2 (bd = true)), .int lt, .int one, .int two, .int wh, .long hash])), (a1, .inl (G.2.1, 97, .inl f)), (a2, .inl (G.2.1, 97, .inl th)), (a3, .inl (G.2.1, 582, .inl pa)), (a4, .inl (G.2.1, 97, .inl sn)), (a5, .inl (G.2.1, 60, .inl tx))] H ∧ va_D (fun _ => True) [(ob, .inr (6, [.ref a1, .ref a2, .ref a3, .int (nI n), .ref a4, .int kp, .ref a5, .int (nI len), .int thr, .int (nI spot), .int (b2 (bd = true)), .int lt, .int one, .int two, .int wh, .long hash])), (a1, .inl (G.2.1, 97, .inl f)), (a2, .inl (G.2.1, 97, .inl th)), (a3, .inl (G.2.1, 582, .inl pa)), (a4, .inl (G.2.1, 97, .inl sn)), (a5, .inl (G.2.1, 60, .inl tx))])) (MV (some (.int (b2 (false = true)))) (fun H => va_P G.1 vwCl [(ob, .inr (6, [.ref a1, .ref a2, .ref a3, .int (nI n), .ref a4, .int kp, .ref a5, .int (nI len), .int thr, .int (nI spot), .int (b2 (decide (spot < len) = true)), .int (nI (lC (nn tx) len spot)), .int one, .int two, .int wh, .long hash])), (a1, .inl (G.2.1, 97, .inl f)), (a2, .inl (G.2.1, 97, .inl th)), (a3, .inl (G.2.1, 582, .inl pa)), (a4, .inl (G.2.1, 97, .inl sn)), (a5, .inl (G.2.1, 60, .inl tx))] H ∧ va_D (inW [(ob, .inr (6, [.ref a1, .ref a2, .ref a3, .int (nI n), .ref a4, .int kp, .ref a5, .int (nI len), .int thr, .int (nI spot), .int (b2 (bd = true)), .int lt, .int one, .int two, .int wh, .long hash])), (a1, .inl (G.2.1, 97, .inl f)), (a2, .inl (G.2.1, 97, .inl th)), (a3, .inl (G.2.1, 582, .inl pa)), (a4, .inl (G.2.1, 97, .inl sn)), (a5, .inl (G.2.1, 60, .inl tx))]) [(ob, .inr (6, [.ref a1, .ref a2, .ref a3, .int (nI n), .ref a4, .int kp, .ref a5, .int (nI len), .int thr, .int (nI spot), .int (b2 (decide (spot < len) = true)), .int (nI (lC (nn tx) len spot)), .int one, .int two, .int wh, .long hash])), (a1, .inl (G.2.1, 97, .inl f)), (a2, .inl (G.2.1, 97, .inl th)), (a3, .inl (G.2.1, 582, .inl pa)), (a4, .inl (G.2.1, 97, .inl sn)), (a5, .inl (G.2.1, 60, .inl tx))]) (inW [(ob, .inr (6, [.ref a1, .ref a2, .ref a3, .int (nI n), .ref a4, .int kp, .ref a5, .int (nI len), .int thr, .int (nI spot), .int (b2 (bd = true)), .int lt, .int one, .int two, .int wh, .long hash])), (a1, .inl (G.2.1, 97, .inl f)), (a2, .inl (G.2.1, 97, .inl th)), (a3, .inl (G.2.1, 582, .inl pa)), (a4, .inl (G.2.1, 97, .inl sn)), (a5, .inl (G.2.1, 60, .inl tx))])) 0 0 (inW [(ob, .inr (6, [.ref a1, .ref a2, .ref a3, .int (nI n), .ref a4, .int kp, .ref a5, .int (nI len), .int thr, .int (nI spot), .int (b2 (bd = true)), .int lt, .int one, .int two, .int wh, .long hash])), (a1, .inl (G.2.1, 97, .inl f)), (a2, .inl (G.2.1, 97, .inl th)), (a3, .inl (G.2.1, 582, .inl pa)), (a4, .inl (G.2.1, 97, .inl sn)), (a5, .inl (G.2.1, 60, .inl tx))]) := by
  refine ofB (cc := cX6_isOrder) (maxL := 2) (ret := (some .boolean)) (by decide) rfl (Nat.le_of_ble_eq_true rfl) ?_
  intro p e s m below meth c hx hb hr hlocks hml hown hin hts hE hI ls hl
  replace hown : s.vm.findClass RX6 = some m.cls := hown
  have hl : lv_has ls 2 [(0, .ref ob)] := hl
  obtain ⟨hP, hD0⟩ := hI
  have hD : va_D (inW [(ob, .inr (6, [.ref a1, .ref a2, .ref a3, .int (nI n), .ref a4, .int kp, .ref a5, .int (nI len), .int thr, .int (nI spot), .int (b2 (bd = true)), .int lt, .int one, .int two, .int wh, .long hash])), (a1, .inl (G.2.1, 97, .inl f)), (a2, .inl (G.2.1, 97, .inl th)), (a3, .inl (G.2.1, 582, .inl pa)), (a4, .inl (G.2.1, 97, .inl sn)), (a5, .inl (G.2.1, 60, .inl tx))]) [(ob, .inr (6, [.ref a1, .ref a2, .ref a3, .int (nI n), .ref a4, .int kp, .ref a5, .int (nI len), .int thr, .int (nI spot), .int (b2 (bd = true)), .int lt, .int one, .int two, .int wh, .long hash])), (a1, .inl (G.2.1, 97, .inl f)), (a2, .inl (G.2.1, 97, .inl th)), (a3, .inl (G.2.1, 582, .inl pa)), (a4, .inl (G.2.1, 97, .inl sn)), (a5, .inl (G.2.1, 60, .inl tx))] := D_self hD0
  obtain ⟨A, hAe⟩ : ∃ A, A = inW [(ob, .inr (6, [.ref a1, .ref a2, .ref a3, .int (nI n), .ref a4, .int kp, .ref a5, .int (nI len), .int thr, .int (nI spot), .int (b2 (bd = true)), .int lt, .int one, .int two, .int wh, .long hash])), (a1, .inl (G.2.1, 97, .inl f)), (a2, .inl (G.2.1, 97, .inl th)), (a3, .inl (G.2.1, 582, .inl pa)), (a4, .inl (G.2.1, 97, .inl sn)), (a5, .inl (G.2.1, 60, .inl tx))] := ⟨_, rfl⟩
  rw [← hAe] at hD ⊢
  have hS : va_S A s.heap s.heap [] := va_S.rf
  obtain ⟨H, hHe⟩ : ∃ H, H = s.heap := ⟨_, rfl⟩
  obtain ⟨locs, hle⟩ : ∃ q : List Loc, q = [] := ⟨_, rfl⟩
  rw [← hle] at hS ⊢
  have hP : va_P G.1 vwCl [(ob, .inr (6, [.ref a1, .ref a2, .ref a3, .int (nI n), .ref a4, .int kp, .ref a5, .int (nI len), .int thr, .int (nI spot), .int (b2 (bd = true)), .int lt, .int one, .int two, .int wh, .long hash])), (a1, .inl (G.2.1, 97, .inl f)), (a2, .inl (G.2.1, 97, .inl th)), (a3, .inl (G.2.1, 582, .inl pa)), (a4, .inl (G.2.1, 97, .inl sn)), (a5, .inl (G.2.1, 60, .inl tx))] H := by rw [hHe]; exact hP
  replace hS : va_S A s.heap H locs := by rw [hHe]; exact hS
  refine tH hHe ?_
  have w_0 : ∀ w ∈ u_ws RX6 TX6 16, w ∈ wsX6_isOrder := by decide +kernel
  have w_1 := hts (.fieldLink RX6 122 "CableFerryModel" "spot" "I") (by decide +kernel)
  have w_2 := hts (.fieldLink RX6 119 "CableFerryModel" "length" "I") (by decide +kernel)
  have w_3 := hts (.fieldLink RX6 136 "CableFerryModel" "letter" "I") (by decide +kernel)
  have w_4 := hts (.fieldLink RX6 129 "CableFerryModel" "isBad" "Z") (by decide +kernel)
  have w_5 := hts (.fieldLink RX6 22 "CableFerryModel" "text" "[I") (by decide +kernel)
  have hl60 := htx.1
  have hlc : lC (nn tx) len spot < 127 := by
    unfold lC
    split
    · rename_i h; exact (htx.2 _ h).2
    · omega
  refine lv_aload_n hx hb dX6_isOrder_0 rfl (lv_at hl 0 rfl) ?_
  refine lv_aload_n hx hb dX6_isOrder_1 rfl (lv_at hl 0 rfl) ?_
  refine va_get (D := G.1) (ci := 6) (v := .int (nI spot)) (C := RX6) (T := TX6) (N := 16) hx hb hts w_0 hown hE.1 hP 0 rfl rfl 9 (by decide) w_1 (fun _ h9 => h9) rfl dX6_isOrder_2 ?_
  refine lv_aload_n hx hb dX6_isOrder_5 rfl (lv_at hl 0 rfl) ?_
  refine va_get (D := G.1) (ci := 6) (v := .int (nI len)) (C := RX6) (T := TX6) (N := 16) hx hb hts w_0 hown hE.1 hP 0 rfl rfl 7 (by decide) w_2 (fun _ h9 => h9) rfl dX6_isOrder_6 ?_
  refine cutL (σ := Nat) (n := 2) (pc1 := 25) (fun r => r = lC (nn tx) len spot) (fun r => [(0, .ref ob)]) (fun r => [.int (nI r), .ref ob]) ?_ (fun J25 => ?_)
  · rintro r ls hI hl
    replace hI : r = lC (nn tx) len spot := hI
    subst hI
    have hl : lv_has ls 2 [(0, .ref ob)] := hl
    refine tS (st' := [.int (nI (lC (nn tx) len spot)), .ref ob]) rfl ?_
    refine va_put (D := G.1) (ci := 6) (v := .int (nI (lC (nn tx) len spot))) (ty := .int) (C := RX6) (T := TX6) (N := 16) hx hb hts w_0 tyX6 tyX6_ok nmX6 hown hE.1 hP hD hS 0 rfl rfl 11 (by decide) w_3 (fun _ h9 => h9) rfl (by decide +kernel) rfl rfl (Nat.le_of_ble_eq_true rfl) dX6_isOrder_25 (fun H locs hP hD hS => ?_)
    have hP : va_P G.1 vwCl [(ob, .inr (6, [.ref a1, .ref a2, .ref a3, .int (nI n), .ref a4, .int kp, .ref a5, .int (nI len), .int thr, .int (nI spot), .int (b2 (bd = true)), .int (nI (lC (nn tx) len spot)), .int one, .int two, .int wh, .long hash])), (a1, .inl (G.2.1, 97, .inl f)), (a2, .inl (G.2.1, 97, .inl th)), (a3, .inl (G.2.1, 582, .inl pa)), (a4, .inl (G.2.1, 97, .inl sn)), (a5, .inl (G.2.1, 60, .inl tx))] H := hP
    have hD : va_D A [(ob, .inr (6, [.ref a1, .ref a2, .ref a3, .int (nI n), .ref a4, .int kp, .ref a5, .int (nI len), .int thr, .int (nI spot), .int (b2 (bd = true)), .int (nI (lC (nn tx) len spot)), .int one, .int two, .int wh, .long hash])), (a1, .inl (G.2.1, 97, .inl f)), (a2, .inl (G.2.1, 97, .inl th)), (a3, .inl (G.2.1, 582, .inl pa)), (a4, .inl (G.2.1, 97, .inl sn)), (a5, .inl (G.2.1, 60, .inl tx))] := hD
    refine lv_aload_n hx hb dX6_isOrder_28 rfl (lv_at hl 0 rfl) ?_
    refine va_get (D := G.1) (ci := 6) (v := .int (nI (lC (nn tx) len spot))) (C := RX6) (T := TX6) (N := 16) hx hb hts w_0 hown hE.1 hP 0 rfl rfl 11 (by decide) w_3 (fun _ h9 => h9) rfl dX6_isOrder_29 ?_
    refine lv_bipush (v := nI 97) hx hb dX6_isOrder_32 (by decide +kernel) ?_
    refine cutL (σ := Int32) (n := 2) (pc1 := 87) (fun r => r = b2 (isL (lC (nn tx) len spot) = true)) (fun r => [(0, .ref ob)]) (fun r => [.int r]) ?_ (fun J87 => ?_)
    · rintro r ls hI hl
      replace hI : r = b2 (isL (lC (nn tx) len spot) = true) := hI
      subst hI
      have hl : lv_has ls 2 [(0, .ref ob)] := hl
      refine tS (st' := [.int (b2 (isL (lC (nn tx) len spot) = true))]) rfl ?_
      refine lv_istore_n (lv' := [(1, .int (b2 (isL (lC (nn tx) len spot) = true))), (0, .ref ob)]) hx hb dX6_isOrder_87 rfl hl (by decide) rfl (fun ls hl => ?_)
      refine lv_iload_n hx hb dX6_isOrder_88 rfl (lv_at hl 0 rfl) ?_
      refine tI (y := nI 0) ((b2_f (by rw [hL]; decide))) ?_
      refine lv_if_ne (tgt := 114) hx hb dX6_isOrder_89 (by decide) (fun c89 => ?_) (fun c89 => ?_)
      · skip
        exact absurd c89 (by decide)
      · skip
        refine lv_aload_n hx hb dX6_isOrder_92 rfl (lv_at hl 1 rfl) ?_
        refine lv_aload_n hx hb dX6_isOrder_93 rfl (lv_at hl 1 rfl) ?_
        refine va_get (D := G.1) (ci := 6) (v := .int (nI spot)) (C := RX6) (T := TX6) (N := 16) hx hb hts w_0 hown hE.1 hP 0 rfl rfl 9 (by decide) w_1 (fun _ h9 => h9) rfl dX6_isOrder_94 ?_
        refine lv_aload_n hx hb dX6_isOrder_97 rfl (lv_at hl 1 rfl) ?_
        refine va_get (D := G.1) (ci := 6) (v := .int (nI len)) (C := RX6) (T := TX6) (N := 16) hx hb hts w_0 hown hE.1 hP 0 rfl rfl 7 (by decide) w_2 (fun _ h9 => h9) rfl dX6_isOrder_98 ?_
        refine cutL (σ := Int32) (n := 2) (pc1 := 109) (fun r => r = b2 (decide (spot < len) = true)) (fun r => [(1, .int (b2 (isL (lC (nn tx) len spot) = true))), (0, .ref ob)]) (fun r => [.int r, .ref ob]) ?_ (fun J109 => ?_)
        · rintro r ls hI hl
          replace hI : r = b2 (decide (spot < len) = true) := hI
          subst hI
          have hl : lv_has ls 2 [(1, .int (b2 (isL (lC (nn tx) len spot) = true))), (0, .ref ob)] := hl
          refine tS (st' := [.int (b2 (decide (spot < len) = true)), .ref ob]) rfl ?_
          refine va_put (D := G.1) (ci := 6) (v := .int (b2 (decide (spot < len) = true))) (ty := .boolean) (C := RX6) (T := TX6) (N := 16) hx hb hts w_0 tyX6 tyX6_ok nmX6 hown hE.1 hP hD hS 0 rfl rfl 10 (by decide) w_4 (fun _ h9 => h9) rfl (by decide +kernel) (b2_z _) (b2_fit _) (Nat.le_of_ble_eq_true rfl) dX6_isOrder_109 (fun H locs hP hD hS => ?_)
          have hP : va_P G.1 vwCl [(ob, .inr (6, [.ref a1, .ref a2, .ref a3, .int (nI n), .ref a4, .int kp, .ref a5, .int (nI len), .int thr, .int (nI spot), .int (b2 (decide (spot < len) = true)), .int (nI (lC (nn tx) len spot)), .int one, .int two, .int wh, .long hash])), (a1, .inl (G.2.1, 97, .inl f)), (a2, .inl (G.2.1, 97, .inl th)), (a3, .inl (G.2.1, 582, .inl pa)), (a4, .inl (G.2.1, 97, .inl sn)), (a5, .inl (G.2.1, 60, .inl tx))] H := hP
          have hD : va_D A [(ob, .inr (6, [.ref a1, .ref a2, .ref a3, .int (nI n), .ref a4, .int kp, .ref a5, .int (nI len), .int thr, .int (nI spot), .int (b2 (decide (spot < len) = true)), .int (nI (lC (nn tx) len spot)), .int one, .int two, .int wh, .long hash])), (a1, .inl (G.2.1, 97, .inl f)), (a2, .inl (G.2.1, 97, .inl th)), (a3, .inl (G.2.1, 582, .inl pa)), (a4, .inl (G.2.1, 97, .inl sn)), (a5, .inl (G.2.1, 60, .inl tx))] := hD
          refine lv_iconst (v := nI 0) hx hb dX6_isOrder_112 (by decide +kernel) ?_
          refine tS (st' := [.int (b2 (false = true))]) (congrArg (fun z => [Value.int z]) ((b2_f (by decide)).symm)) ?_
          exact W.zret hx hb hr (b2_z _) (fun t ht hW => ⟨rfl, by rw [ht]; exact ⟨hP, hD⟩, hS.F ht⟩) hS.2.2 dX6_isOrder_113
        · skip
          refine icmp_geN (tgt := 108) hx hb (by omega) (by omega) dX6_isOrder_101 (by decide) (fun c101 => ?_) (fun c101 => ?_)
          · skip
            refine lv_iconst (v := nI 0) hx hb dX6_isOrder_108 (by decide +kernel) ?_
            exact J109 (nI 0) _ (by simp only [b2, decide_eq_true_eq]; split <;> first | rfl | omega) (lv_sub hl [0, 1] rfl)
          · skip
            refine lv_iconst (v := nI 1) hx hb dX6_isOrder_104 (by decide +kernel) ?_
            refine lv_goto (tgt := 109) hx hb dX6_isOrder_105 (by decide) ?_
            exact J109 (nI 1) _ (by simp only [b2, decide_eq_true_eq]; split <;> first | rfl | omega) (lv_sub hl [0, 1] rfl)
    · skip
      refine icmp_eqN (tgt := 82) hx hb (by omega) (by omega) dX6_isOrder_34 (by decide) (fun c34 => ?_) (fun c34 => ?_)
      · skip
        refine lv_iconst (v := nI 1) hx hb dX6_isOrder_82 (by decide +kernel) ?_
        refine lv_goto (tgt := 87) hx hb dX6_isOrder_83 (by decide) ?_
        exact J87 (nI 1) _ (by simp only [b2, isL, decide_eq_true_eq]; (repeat' split) <;> first | rfl | omega) (lv_sub hl [0] rfl)
      · skip
        refine lv_aload_n hx hb dX6_isOrder_37 rfl (lv_at hl 0 rfl) ?_
        refine va_get (D := G.1) (ci := 6) (v := .int (nI (lC (nn tx) len spot))) (C := RX6) (T := TX6) (N := 16) hx hb hts w_0 hown hE.1 hP 0 rfl rfl 11 (by decide) w_3 (fun _ h9 => h9) rfl dX6_isOrder_38 ?_
        refine lv_bipush (v := nI 108) hx hb dX6_isOrder_41 (by decide +kernel) ?_
        refine icmp_eqN (tgt := 82) hx hb (by omega) (by omega) dX6_isOrder_43 (by decide) (fun c43 => ?_) (fun c43 => ?_)
        · skip
          refine lv_iconst (v := nI 1) hx hb dX6_isOrder_82 (by decide +kernel) ?_
          refine lv_goto (tgt := 87) hx hb dX6_isOrder_83 (by decide) ?_
          exact J87 (nI 1) _ (by simp only [b2, isL, decide_eq_true_eq]; (repeat' split) <;> first | rfl | omega) (lv_sub hl [0] rfl)
        · skip
          refine lv_aload_n hx hb dX6_isOrder_46 rfl (lv_at hl 0 rfl) ?_
          refine va_get (D := G.1) (ci := 6) (v := .int (nI (lC (nn tx) len spot))) (C := RX6) (T := TX6) (N := 16) hx hb hts w_0 hown hE.1 hP 0 rfl rfl 11 (by decide) w_3 (fun _ h9 => h9) rfl dX6_isOrder_47 ?_
          refine lv_bipush (v := nI 117) hx hb dX6_isOrder_50 (by decide +kernel) ?_
          refine icmp_eqN (tgt := 82) hx hb (by omega) (by omega) dX6_isOrder_52 (by decide) (fun c52 => ?_) (fun c52 => ?_)
          · skip
            refine lv_iconst (v := nI 1) hx hb dX6_isOrder_82 (by decide +kernel) ?_
            refine lv_goto (tgt := 87) hx hb dX6_isOrder_83 (by decide) ?_
            exact J87 (nI 1) _ (by simp only [b2, isL, decide_eq_true_eq]; (repeat' split) <;> first | rfl | omega) (lv_sub hl [0] rfl)
          · skip
            refine lv_aload_n hx hb dX6_isOrder_55 rfl (lv_at hl 0 rfl) ?_
            refine va_get (D := G.1) (ci := 6) (v := .int (nI (lC (nn tx) len spot))) (C := RX6) (T := TX6) (N := 16) hx hb hts w_0 hown hE.1 hP 0 rfl rfl 11 (by decide) w_3 (fun _ h9 => h9) rfl dX6_isOrder_56 ?_
            refine lv_bipush (v := nI 120) hx hb dX6_isOrder_59 (by decide +kernel) ?_
            refine icmp_eqN (tgt := 82) hx hb (by omega) (by omega) dX6_isOrder_61 (by decide) (fun c61 => ?_) (fun c61 => ?_)
            · skip
              refine lv_iconst (v := nI 1) hx hb dX6_isOrder_82 (by decide +kernel) ?_
              refine lv_goto (tgt := 87) hx hb dX6_isOrder_83 (by decide) ?_
              exact J87 (nI 1) _ (by simp only [b2, isL, decide_eq_true_eq]; (repeat' split) <;> first | rfl | omega) (lv_sub hl [0] rfl)
            · skip
              refine lv_aload_n hx hb dX6_isOrder_64 rfl (lv_at hl 0 rfl) ?_
              refine va_get (D := G.1) (ci := 6) (v := .int (nI (lC (nn tx) len spot))) (C := RX6) (T := TX6) (N := 16) hx hb hts w_0 hown hE.1 hP 0 rfl rfl 11 (by decide) w_3 (fun _ h9 => h9) rfl dX6_isOrder_65 ?_
              refine lv_bipush (v := nI 119) hx hb dX6_isOrder_68 (by decide +kernel) ?_
              refine icmp_eqN (tgt := 82) hx hb (by omega) (by omega) dX6_isOrder_70 (by decide) (fun c70 => ?_) (fun c70 => ?_)
              · skip
                refine lv_iconst (v := nI 1) hx hb dX6_isOrder_82 (by decide +kernel) ?_
                refine lv_goto (tgt := 87) hx hb dX6_isOrder_83 (by decide) ?_
                exact J87 (nI 1) _ (by simp only [b2, isL, decide_eq_true_eq]; (repeat' split) <;> first | rfl | omega) (lv_sub hl [0] rfl)
              · skip
                refine lv_aload_n hx hb dX6_isOrder_73 rfl (lv_at hl 0 rfl) ?_
                refine va_get (D := G.1) (ci := 6) (v := .int (nI (lC (nn tx) len spot))) (C := RX6) (T := TX6) (N := 16) hx hb hts w_0 hown hE.1 hP 0 rfl rfl 11 (by decide) w_3 (fun _ h9 => h9) rfl dX6_isOrder_74 ?_
                refine lv_bipush (v := nI 100) hx hb dX6_isOrder_77 (by decide +kernel) ?_
                refine icmp_neN (tgt := 86) hx hb (by omega) (by omega) dX6_isOrder_79 (by decide) (fun c79 => ?_) (fun c79 => ?_)
                · skip
                  refine lv_iconst (v := nI 0) hx hb dX6_isOrder_86 (by decide +kernel) ?_
                  exact J87 (nI 0) _ (by simp only [b2, isL, decide_eq_true_eq]; (repeat' split) <;> first | rfl | omega) (lv_sub hl [0] rfl)
                · skip
                  refine lv_iconst (v := nI 1) hx hb dX6_isOrder_82 (by decide +kernel) ?_
                  refine lv_goto (tgt := 87) hx hb dX6_isOrder_83 (by decide) ?_
                  exact J87 (nI 1) _ (by simp only [b2, isL, decide_eq_true_eq]; (repeat' split) <;> first | rfl | omega) (lv_sub hl [0] rfl)
  · skip
    refine icmp_geN (tgt := 24) hx hb (by omega) (by omega) dX6_isOrder_9 (by decide) (fun c9 => ?_) (fun c9 => ?_)
    · skip
      refine lv_iconst (v := nI 0) hx hb dX6_isOrder_24 (by decide +kernel) ?_
      exact J25 0 _ (by unfold lC; split <;> first | rfl | omega) (lv_sub hl [0] rfl)
    · skip
      refine lv_aload_n hx hb dX6_isOrder_12 rfl (lv_at hl 0 rfl) ?_
      refine va_get (D := G.1) (ci := 6) (v := .ref a5) (C := RX6) (T := TX6) (N := 16) hx hb hts w_0 hown hE.1 hP 0 rfl rfl 6 (by decide) w_5 (fun _ h9 => h9) rfl dX6_isOrder_13 ?_
      refine lv_aload_n hx hb dX6_isOrder_16 rfl (lv_at hl 0 rfl) ?_
      refine va_get (D := G.1) (ci := 6) (v := .int (nI spot)) (C := RX6) (T := TX6) (N := 16) hx hb hts w_0 hown hE.1 hP 0 rfl rfl 9 (by decide) w_1 (fun _ h9 => h9) rfl dX6_isOrder_17 ?_
      refine ialdN (k := spot) hx hb hE.1 hP 5 0 rfl rfl (by omega) (by decide) dX6_isOrder_20 ?_
      refine tI (y := nI (nn tx spot)) (htx.2 _ c9).1 ?_
      refine lv_goto (tgt := 25) hx hb dX6_isOrder_21 (by decide) ?_
      exact J25 (nn tx spot) _ (by unfold lC; split <;> first | rfl | omega) (lv_sub hl [0] rfl)

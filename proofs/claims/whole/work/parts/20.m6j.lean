set_option maxHeartbeats 4000000 in
set_option maxRecDepth 100000 in
theorem c_X6_canDo (l : Launch) (G : eG) (ob a1 a2 a3 a4 a5 : Nat) (f th pa sn tx : Nat → Int32) (n len spot : Nat) (kp thr bad lt one two wh : Int32) (hash : Int64) (B : Nat) (hB : B < 800000000) (ho : Okf B f) (L x y : Nat) (hd : Odr L x y) (h0 : (L = 117 → x = 0 ∧ y = 0) ∧ (L = 120 → x = 0 ∧ y = 0)) : Met l yX6_canDo wsX6_canDo ({ frames := 6, cells := 0, slots := 0, locals := 300 }) (PC [.ref ob] G (fun H => va_P G.1 vwCl [(ob, .inr (6, [.ref a1, .ref a2, .ref a3, .int (nI n), .ref a4, .int kp, .ref a5, .int (nI len), .int thr, .int (nI spot), .int bad, .int (nI L), .int (nI x), .int (nI y), .int wh, .long hash])), (a1, .inl (G.2.1, 97, .inl f)), (a2, .inl (G.2.1, 97, .inl th)), (a3, .inl (G.2.1, 582, .inl pa)), (a4, .inl (G.2.1, 97, .inl sn)), (a5, .inl (G.2.1, 60, .inl tx))] H ∧ va_D (fun _ => True) [(ob, .inr (6, [.ref a1, .ref a2, .ref a3, .int (nI n), .ref a4, .int kp, .ref a5, .int (nI len), .int thr, .int (nI spot), .int bad, .int (nI L), .int (nI x), .int (nI y), .int wh, .long hash])), (a1, .inl (G.2.1, 97, .inl f)), (a2, .inl (G.2.1, 97, .inl th)), (a3, .inl (G.2.1, 582, .inl pa)), (a4, .inl (G.2.1, 97, .inl sn)), (a5, .inl (G.2.1, 60, .inl tx))])) (MV (some (.int (b2 (cnD f L x = true)))) (fun H => va_P G.1 vwCl [(ob, .inr (6, [.ref a1, .ref a2, .ref a3, .int (nI n), .ref a4, .int kp, .ref a5, .int (nI len), .int thr, .int (nI spot), .int bad, .int (nI L), .int (nI x), .int (nI y), .int wh, .long hash])), (a1, .inl (G.2.1, 97, .inl (exD f L x y))), (a2, .inl (G.2.1, 97, .inl th)), (a3, .inl (G.2.1, 582, .inl pa)), (a4, .inl (G.2.1, 97, .inl sn)), (a5, .inl (G.2.1, 60, .inl tx))] H ∧ va_D (inW [(ob, .inr (6, [.ref a1, .ref a2, .ref a3, .int (nI n), .ref a4, .int kp, .ref a5, .int (nI len), .int thr, .int (nI spot), .int bad, .int (nI L), .int (nI x), .int (nI y), .int wh, .long hash])), (a1, .inl (G.2.1, 97, .inl f)), (a2, .inl (G.2.1, 97, .inl th)), (a3, .inl (G.2.1, 582, .inl pa)), (a4, .inl (G.2.1, 97, .inl sn)), (a5, .inl (G.2.1, 60, .inl tx))]) [(ob, .inr (6, [.ref a1, .ref a2, .ref a3, .int (nI n), .ref a4, .int kp, .ref a5, .int (nI len), .int thr, .int (nI spot), .int bad, .int (nI L), .int (nI x), .int (nI y), .int wh, .long hash])), (a1, .inl (G.2.1, 97, .inl (exD f L x y))), (a2, .inl (G.2.1, 97, .inl th)), (a3, .inl (G.2.1, 582, .inl pa)), (a4, .inl (G.2.1, 97, .inl sn)), (a5, .inl (G.2.1, 60, .inl tx))]) (inW [(ob, .inr (6, [.ref a1, .ref a2, .ref a3, .int (nI n), .ref a4, .int kp, .ref a5, .int (nI len), .int thr, .int (nI spot), .int bad, .int (nI L), .int (nI x), .int (nI y), .int wh, .long hash])), (a1, .inl (G.2.1, 97, .inl f)), (a2, .inl (G.2.1, 97, .inl th)), (a3, .inl (G.2.1, 582, .inl pa)), (a4, .inl (G.2.1, 97, .inl sn)), (a5, .inl (G.2.1, 60, .inl tx))])) 0 0 (inW [(ob, .inr (6, [.ref a1, .ref a2, .ref a3, .int (nI n), .ref a4, .int kp, .ref a5, .int (nI len), .int thr, .int (nI spot), .int bad, .int (nI L), .int (nI x), .int (nI y), .int wh, .long hash])), (a1, .inl (G.2.1, 97, .inl f)), (a2, .inl (G.2.1, 97, .inl th)), (a3, .inl (G.2.1, 582, .inl pa)), (a4, .inl (G.2.1, 97, .inl sn)), (a5, .inl (G.2.1, 60, .inl tx))]) := by
  rcases hd with ⟨rfl, h1, h2, h3⟩ | ⟨rfl, h1⟩ | rfl | rfl | ⟨rfl, h1, h2⟩ | ⟨rfl, h1, h2⟩
  · exact c_X6_canDo_a l G ob a1 a2 a3 a4 a5 f th pa sn tx n len spot kp thr bad lt one two wh hash B hB ho x y h1
  · exact c_X6_canDo_l l G ob a1 a2 a3 a4 a5 f th pa sn tx n len spot kp thr bad lt one two wh hash B hB ho x y h1
  · obtain ⟨rfl, rfl⟩ := h0.1 rfl
    exact c_X6_canDo_u l G ob a1 a2 a3 a4 a5 f th pa sn tx n len spot kp thr bad lt one two wh hash B hB ho
  · obtain ⟨rfl, rfl⟩ := h0.2 rfl
    exact c_X6_canDo_x l G ob a1 a2 a3 a4 a5 f th pa sn tx n len spot kp thr bad lt one two wh hash B hB ho
  · exact c_X6_canDo_w l G ob a1 a2 a3 a4 a5 f th pa sn tx n len spot kp thr bad lt one two wh hash B hB ho x y
  · exact c_X6_canDo_d l G ob a1 a2 a3 a4 a5 f th pa sn tx n len spot kp thr bad lt one two wh hash B hB ho x y h2
set_option maxHeartbeats 4000000 in
set_option maxRecDepth 100000 in
theorem c_X6_orders_1 (l : Launch) (G : eG) (ob a1 a2 a3 a4 a5 : Nat) (f th pa sn tx : Nat → Int32) (n len spot : Nat) (kp thr bad lt one two wh : Int32) (hash : Int64) (htx : Tx tx len) (B : Nat) (hB : B < 800000000) (ho : Okf B f) (hB2 : B < 700000000) (hW : pW (nn tx) len (len + 1) 0 = true) : Met l yX6_orders wsX6_orders ({ frames := 7, cells := 0, slots := 0, locals := 322 }) (PC [.ref ob, .int (nI 1)] G (fun H => va_P G.1 vwCl [(ob, .inr (6, [.ref a1, .ref a2, .ref a3, .int (nI n), .ref a4, .int kp, .ref a5, .int (nI len), .int thr, .int (nI spot), .int bad, .int lt, .int one, .int two, .int wh, .long hash])), (a1, .inl (G.2.1, 97, .inl f)), (a2, .inl (G.2.1, 97, .inl th)), (a3, .inl (G.2.1, 582, .inl pa)), (a4, .inl (G.2.1, 97, .inl sn)), (a5, .inl (G.2.1, 60, .inl tx))] H ∧ va_D (fun _ => True) [(ob, .inr (6, [.ref a1, .ref a2, .ref a3, .int (nI n), .ref a4, .int kp, .ref a5, .int (nI len), .int thr, .int (nI spot), .int bad, .int lt, .int one, .int two, .int wh, .long hash])), (a1, .inl (G.2.1, 97, .inl f)), (a2, .inl (G.2.1, 97, .inl th)), (a3, .inl (G.2.1, 582, .inl pa)), (a4, .inl (G.2.1, 97, .inl sn)), (a5, .inl (G.2.1, 60, .inl tx))])) (MV (some (.int (nI (xC (nn tx) len (len + 1) 0 f)))) (fun H => ∃ z0 z1 z2 z3 z4 z5, va_P G.1 vwCl [(ob, .inr (6, [.ref a1, .ref a2, .ref a3, .int (nI n), .ref a4, .int kp, .ref a5, .int (nI len), .int thr, .int (nI z0), .int z1, .int z2, .int z3, .int z4, .int z5, .long hash])), (a1, .inl (G.2.1, 97, .inl (xF (nn tx) len (len + 1) 0 f))), (a2, .inl (G.2.1, 97, .inl th)), (a3, .inl (G.2.1, 582, .inl pa)), (a4, .inl (G.2.1, 97, .inl sn)), (a5, .inl (G.2.1, 60, .inl tx))] H ∧ va_D (inW [(ob, .inr (6, [.ref a1, .ref a2, .ref a3, .int (nI n), .ref a4, .int kp, .ref a5, .int (nI len), .int thr, .int (nI spot), .int bad, .int lt, .int one, .int two, .int wh, .long hash])), (a1, .inl (G.2.1, 97, .inl f)), (a2, .inl (G.2.1, 97, .inl th)), (a3, .inl (G.2.1, 582, .inl pa)), (a4, .inl (G.2.1, 97, .inl sn)), (a5, .inl (G.2.1, 60, .inl tx))]) [(ob, .inr (6, [.ref a1, .ref a2, .ref a3, .int (nI n), .ref a4, .int kp, .ref a5, .int (nI len), .int thr, .int (nI z0), .int z1, .int z2, .int z3, .int z4, .int z5, .long hash])), (a1, .inl (G.2.1, 97, .inl (xF (nn tx) len (len + 1) 0 f))), (a2, .inl (G.2.1, 97, .inl th)), (a3, .inl (G.2.1, 582, .inl pa)), (a4, .inl (G.2.1, 97, .inl sn)), (a5, .inl (G.2.1, 60, .inl tx))]) (inW [(ob, .inr (6, [.ref a1, .ref a2, .ref a3, .int (nI n), .ref a4, .int kp, .ref a5, .int (nI len), .int thr, .int (nI spot), .int bad, .int lt, .int one, .int two, .int wh, .long hash])), (a1, .inl (G.2.1, 97, .inl f)), (a2, .inl (G.2.1, 97, .inl th)), (a3, .inl (G.2.1, 582, .inl pa)), (a4, .inl (G.2.1, 97, .inl sn)), (a5, .inl (G.2.1, 60, .inl tx))])) 0 0 (inW [(ob, .inr (6, [.ref a1, .ref a2, .ref a3, .int (nI n), .ref a4, .int kp, .ref a5, .int (nI len), .int thr, .int (nI spot), .int bad, .int lt, .int one, .int two, .int wh, .long hash])), (a1, .inl (G.2.1, 97, .inl f)), (a2, .inl (G.2.1, 97, .inl th)), (a3, .inl (G.2.1, 582, .inl pa)), (a4, .inl (G.2.1, 97, .inl sn)), (a5, .inl (G.2.1, 60, .inl tx))]) := by
  refine ofB (cc := cX6_orders) (maxL := 6) (ret := (some .int)) (by decide) rfl (Nat.le_of_ble_eq_true rfl) ?_
  intro p e s m below meth c hx hb hr hlocks hml hown hin hts hE hI ls hl
  replace hown : s.vm.findClass RX6 = some m.cls := hown
  have hl : lv_has ls 6 [(0, .ref ob), (1, .int (nI 1))] := hl
  obtain ⟨hP, hD0⟩ := hI
  have hD : va_D (inW [(ob, .inr (6, [.ref a1, .ref a2, .ref a3, .int (nI n), .ref a4, .int kp, .ref a5, .int (nI len), .int thr, .int (nI spot), .int bad, .int lt, .int one, .int two, .int wh, .long hash])), (a1, .inl (G.2.1, 97, .inl f)), (a2, .inl (G.2.1, 97, .inl th)), (a3, .inl (G.2.1, 582, .inl pa)), (a4, .inl (G.2.1, 97, .inl sn)), (a5, .inl (G.2.1, 60, .inl tx))]) [(ob, .inr (6, [.ref a1, .ref a2, .ref a3, .int (nI n), .ref a4, .int kp, .ref a5, .int (nI len), .int thr, .int (nI spot), .int bad, .int lt, .int one, .int two, .int wh, .long hash])), (a1, .inl (G.2.1, 97, .inl f)), (a2, .inl (G.2.1, 97, .inl th)), (a3, .inl (G.2.1, 582, .inl pa)), (a4, .inl (G.2.1, 97, .inl sn)), (a5, .inl (G.2.1, 60, .inl tx))] := D_self hD0
  obtain ⟨A, hAe⟩ : ∃ A, A = inW [(ob, .inr (6, [.ref a1, .ref a2, .ref a3, .int (nI n), .ref a4, .int kp, .ref a5, .int (nI len), .int thr, .int (nI spot), .int bad, .int lt, .int one, .int two, .int wh, .long hash])), (a1, .inl (G.2.1, 97, .inl f)), (a2, .inl (G.2.1, 97, .inl th)), (a3, .inl (G.2.1, 582, .inl pa)), (a4, .inl (G.2.1, 97, .inl sn)), (a5, .inl (G.2.1, 60, .inl tx))] := ⟨_, rfl⟩
  rw [← hAe] at hD ⊢
  have hS : va_S A s.heap s.heap [] := va_S.rf
  obtain ⟨H, hHe⟩ : ∃ H, H = s.heap := ⟨_, rfl⟩
  obtain ⟨locs, hle⟩ : ∃ q : List Loc, q = [] := ⟨_, rfl⟩
  rw [← hle] at hS ⊢
  have hP : va_P G.1 vwCl [(ob, .inr (6, [.ref a1, .ref a2, .ref a3, .int (nI n), .ref a4, .int kp, .ref a5, .int (nI len), .int thr, .int (nI spot), .int bad, .int lt, .int one, .int two, .int wh, .long hash])), (a1, .inl (G.2.1, 97, .inl f)), (a2, .inl (G.2.1, 97, .inl th)), (a3, .inl (G.2.1, 582, .inl pa)), (a4, .inl (G.2.1, 97, .inl sn)), (a5, .inl (G.2.1, 60, .inl tx))] H := by rw [hHe]; exact hP
  replace hS : va_S A s.heap H locs := by rw [hHe]; exact hS
  refine tH hHe ?_
  have w_0 : ∀ w ∈ u_ws RX6 TX6 16, w ∈ wsX6_orders := by decide +kernel
  have w_1 := hts (.fieldLink RX6 122 "CableFerryModel" "spot" "I") (by decide +kernel)
  have w_2 := hts (.fieldLink RX6 129 "CableFerryModel" "isBad" "Z") (by decide +kernel)
  have w_3 := hts (.fieldLink RX6 119 "CableFerryModel" "length" "I") (by decide +kernel)
  have w_4 := hts (.fieldLink RX6 155 "CableFerryModel" "isWhole" "Z") (by decide +kernel)
  have hl60 := htx.1
  refine lv_aload_n hx hb dX6_orders_0 rfl (lv_at hl 0 rfl) ?_
  refine lv_iconst (v := nI 0) hx hb dX6_orders_1 (by decide +kernel) ?_
  refine va_put (D := G.1) (ci := 6) (v := .int (nI 0)) (ty := .int) (C := RX6) (T := TX6) (N := 16) hx hb hts w_0 tyX6 tyX6_ok nmX6 hown hE.1 hP hD hS 0 rfl rfl 9 (by decide) w_1 (fun _ h9 => h9) rfl (by decide +kernel) rfl rfl (Nat.le_of_ble_eq_true rfl) dX6_orders_2 (fun H locs hP hD hS => ?_)
  have hP : va_P G.1 vwCl [(ob, .inr (6, [.ref a1, .ref a2, .ref a3, .int (nI n), .ref a4, .int kp, .ref a5, .int (nI len), .int thr, .int (nI 0), .int bad, .int lt, .int one, .int two, .int wh, .long hash])), (a1, .inl (G.2.1, 97, .inl f)), (a2, .inl (G.2.1, 97, .inl th)), (a3, .inl (G.2.1, 582, .inl pa)), (a4, .inl (G.2.1, 97, .inl sn)), (a5, .inl (G.2.1, 60, .inl tx))] H := hP
  have hD : va_D A [(ob, .inr (6, [.ref a1, .ref a2, .ref a3, .int (nI n), .ref a4, .int kp, .ref a5, .int (nI len), .int thr, .int (nI 0), .int bad, .int lt, .int one, .int two, .int wh, .long hash])), (a1, .inl (G.2.1, 97, .inl f)), (a2, .inl (G.2.1, 97, .inl th)), (a3, .inl (G.2.1, 582, .inl pa)), (a4, .inl (G.2.1, 97, .inl sn)), (a5, .inl (G.2.1, 60, .inl tx))] := hD
  refine lv_aload_n hx hb dX6_orders_5 rfl (lv_at hl 0 rfl) ?_
  refine lv_iconst (v := nI 0) hx hb dX6_orders_6 (by decide +kernel) ?_
  refine va_put (D := G.1) (ci := 6) (v := .int (nI 0)) (ty := .boolean) (C := RX6) (T := TX6) (N := 16) hx hb hts w_0 tyX6 tyX6_ok nmX6 hown hE.1 hP hD hS 0 rfl rfl 10 (by decide) w_2 (fun _ h9 => h9) rfl (by decide +kernel) rfl (by decide +kernel) (Nat.le_of_ble_eq_true rfl) dX6_orders_7 (fun H locs hP hD hS => ?_)
  have hP : va_P G.1 vwCl [(ob, .inr (6, [.ref a1, .ref a2, .ref a3, .int (nI n), .ref a4, .int kp, .ref a5, .int (nI len), .int thr, .int (nI 0), .int (nI 0), .int lt, .int one, .int two, .int wh, .long hash])), (a1, .inl (G.2.1, 97, .inl f)), (a2, .inl (G.2.1, 97, .inl th)), (a3, .inl (G.2.1, 582, .inl pa)), (a4, .inl (G.2.1, 97, .inl sn)), (a5, .inl (G.2.1, 60, .inl tx))] H := hP
  have hD : va_D A [(ob, .inr (6, [.ref a1, .ref a2, .ref a3, .int (nI n), .ref a4, .int kp, .ref a5, .int (nI len), .int thr, .int (nI 0), .int (nI 0), .int lt, .int one, .int two, .int wh, .long hash])), (a1, .inl (G.2.1, 97, .inl f)), (a2, .inl (G.2.1, 97, .inl th)), (a3, .inl (G.2.1, 582, .inl pa)), (a4, .inl (G.2.1, 97, .inl sn)), (a5, .inl (G.2.1, 60, .inl tx))] := hD
  refine lv_iconst (v := nI 0) hx hb dX6_orders_10 (by decide +kernel) ?_
  refine lv_istore_n (lv' := [(2, .int (nI 0)), (0, .ref ob), (1, .int (nI 1))]) hx hb dX6_orders_11 rfl hl (by decide) rfl (fun ls hl => ?_)
  refine lv_iconst (v := nI 1) hx hb dX6_orders_12 (by decide +kernel) ?_
  refine lv_istore_n (lv' := [(3, .int (nI 1)), (2, .int (nI 0)), (0, .ref ob), (1, .int (nI 1))]) hx hb dX6_orders_13 rfl hl (by decide) rfl (fun ls hl => ?_)
  refine loopH (σ := Nat × Nat × Nat × (Nat → Int32) × Int32 × Int32 × Int32 × Int32) (n := 6) (pc1 := 14) (fun (z_ : Nat × Nat × Nat × (Nat → Int32) × Int32 × Int32 × Int32 × Int32) => match z_ with | (k, sp, ct, g2, y1, y2, y3, y4) => k) (fun (z_ : Nat × Nat × Nat × (Nat → Int32) × Int32 × Int32 × Int32 × Int32) => match z_ with | (k, sp, ct, g2, y1, y2, y3, y4) => sp ≤ len ∧ len + 1 ≤ k + sp ∧ ct ≤ sp ∧ xF (nn tx) len k sp g2 = xF (nn tx) len (len + 1) 0 f ∧ ct + xC (nn tx) len k sp g2 = xC (nn tx) len (len + 1) 0 f ∧ Okf (B + 100 * ct) g2 ∧ pW (nn tx) len k sp = true) (fun (z_ : Nat × Nat × Nat × (Nat → Int32) × Int32 × Int32 × Int32 × Int32) => match z_ with | (k, sp, ct, g2, y1, y2, y3, y4) => fun (H : Heap) (locs : List Loc) => va_P G.1 vwCl [(ob, .inr (6, [.ref a1, .ref a2, .ref a3, .int (nI n), .ref a4, .int kp, .ref a5, .int (nI len), .int thr, .int (nI sp), .int (b2 (false = true)), .int y1, .int y2, .int y3, .int y4, .long hash])), (a1, .inl (G.2.1, 97, .inl g2)), (a2, .inl (G.2.1, 97, .inl th)), (a3, .inl (G.2.1, 582, .inl pa)), (a4, .inl (G.2.1, 97, .inl sn)), (a5, .inl (G.2.1, 60, .inl tx))] H ∧ va_D A [(ob, .inr (6, [.ref a1, .ref a2, .ref a3, .int (nI n), .ref a4, .int kp, .ref a5, .int (nI len), .int thr, .int (nI sp), .int (b2 (false = true)), .int y1, .int y2, .int y3, .int y4, .long hash])), (a1, .inl (G.2.1, 97, .inl g2)), (a2, .inl (G.2.1, 97, .inl th)), (a3, .inl (G.2.1, 582, .inl pa)), (a4, .inl (G.2.1, 97, .inl sn)), (a5, .inl (G.2.1, 60, .inl tx))] ∧ va_S A s.heap H locs) (fun (z_ : Nat × Nat × Nat × (Nat → Int32) × Int32 × Int32 × Int32 × Int32) => match z_ with | (k, sp, ct, g2, y1, y2, y3, y4) => [(3, .int (nI 1)), (2, .int (nI ct)), (0, .ref ob), (1, .int (nI 1))]) (fun (z_ : Nat × Nat × Nat × (Nat → Int32) × Int32 × Int32 × Int32 × Int32) => match z_ with | (k, sp, ct, g2, y1, y2, y3, y4) => []) ?_ (len + 1, 0, 0, f, lt, one, two, wh) H _ _ ⟨by omega, by omega, by omega, rfl, by rw [Nat.zero_add], ho, hW⟩ ⟨hP, hD, hS⟩ (lv_sub hl [0, 1, 2, 3] rfl)
  rintro ⟨k, sp, ct, g2, y1, y2, y3, y4⟩ H locs ls hI ⟨hP, hD, hS⟩ hl ih14
  have hl : lv_has ls 6 [(3, .int (nI 1)), (2, .int (nI ct)), (0, .ref ob), (1, .int (nI 1))] := hl
  replace hI : sp ≤ len ∧ len + 1 ≤ k + sp ∧ ct ≤ sp ∧ xF (nn tx) len k sp g2 = xF (nn tx) len (len + 1) 0 f ∧ ct + xC (nn tx) len k sp g2 = xC (nn tx) len (len + 1) 0 f ∧ Okf (B + 100 * ct) g2 ∧ pW (nn tx) len k sp = true := hI
  obtain ⟨i1, i2, i3, i4, i5, i6, i7⟩ := hI
  obtain ⟨hn1, hn2, hn3⟩ := nxF_le (t := nn tx) i1
  obtain ⟨k, rfl⟩ : ∃ k0, k = k0 + 1 := ⟨k - 1, by omega⟩
  have hP : va_P G.1 vwCl [(ob, .inr (6, [.ref a1, .ref a2, .ref a3, .int (nI n), .ref a4, .int kp, .ref a5, .int (nI len), .int thr, .int (nI sp), .int (b2 (false = true)), .int y1, .int y2, .int y3, .int y4, .long hash])), (a1, .inl (G.2.1, 97, .inl g2)), (a2, .inl (G.2.1, 97, .inl th)), (a3, .inl (G.2.1, 582, .inl pa)), (a4, .inl (G.2.1, 97, .inl sn)), (a5, .inl (G.2.1, 60, .inl tx))] H := hP
  have hD : va_D A [(ob, .inr (6, [.ref a1, .ref a2, .ref a3, .int (nI n), .ref a4, .int kp, .ref a5, .int (nI len), .int thr, .int (nI sp), .int (b2 (false = true)), .int y1, .int y2, .int y3, .int y4, .long hash])), (a1, .inl (G.2.1, 97, .inl g2)), (a2, .inl (G.2.1, 97, .inl th)), (a3, .inl (G.2.1, 582, .inl pa)), (a4, .inl (G.2.1, 97, .inl sn)), (a5, .inl (G.2.1, 60, .inl tx))] := hD
  refine tS (st' := []) rfl ?_
  refine lv_iload_n hx hb dX6_orders_14 rfl (lv_at hl 0 rfl) ?_
  refine lv_if_eq (tgt := 182) hx hb dX6_orders_15 (by decide) (fun c15 => ?_) (fun c15 => ?_)
  · skip
    exact absurd c15 (by decide)
  · skip
    refine lv_aload_n hx hb dX6_orders_18 rfl (lv_at hl 2 rfl) ?_
    have hPc := hP.sub (ws' := [(ob, .inr (6, [.ref a1, .ref a2, .ref a3, .int (nI n), .ref a4, .int kp, .ref a5, .int (nI len), .int thr, .int (nI sp), .int (b2 (false = true)), .int y1, .int y2, .int y3, .int y4, .long hash])), (a1, .inl (G.2.1, 97, .inl g2)), (a2, .inl (G.2.1, 97, .inl th)), (a3, .inl (G.2.1, 582, .inl pa)), (a4, .inl (G.2.1, 97, .inl sn)), (a5, .inl (G.2.1, 60, .inl tx))]) [0, 1, 2, 3, 4, 5] rfl
    have hDc := hD.sub (ws' := [(ob, .inr (6, [.ref a1, .ref a2, .ref a3, .int (nI n), .ref a4, .int kp, .ref a5, .int (nI len), .int thr, .int (nI sp), .int (b2 (false = true)), .int y1, .int y2, .int y3, .int y4, .long hash])), (a1, .inl (G.2.1, 97, .inl g2)), (a2, .inl (G.2.1, 97, .inl th)), (a3, .inl (G.2.1, 582, .inl pa)), (a4, .inl (G.2.1, 97, .inl sn)), (a5, .inl (G.2.1, 60, .inl tx))]) [0, 1, 2, 3, 4, 5] (by decide) rfl
    refine mcall (st1 := [.int (b2 (okF (nn tx) len sp = true))]) (va_runV (As := []) (rest := []) ⟨hx, hb, hml, hown, hts⟩ (c_X6_isOrder l G ob a1 a2 a3 a4 a5 g2 th pa sn tx n len sp kp thr (b2 (false = true)) y1 y2 y3 y4 hash htx (by omega) false) (cwV 0 hts gX6_orders_X6_isOrder rfl rfl rfl (by decide +kernel) ⟨Nat.le_of_ble_eq_true rfl, Nat.le_of_ble_eq_true rfl⟩) (PC.preV hE (va_recv hE.1 hP (ci := 6) (q0 := 0) rfl rfl) ⟨hPc, hDc.weaken (fun _ _ _ _ => trivial)⟩) rfl rfl hl.1 rfl (lv_room (Nat.le_of_ble_eq_true rfl)) dX6_orders_19 ⟨Nat.zero_le _, Nat.zero_le _⟩) hS (fun q _ h => inW_D hDc q h) (fun q h => inW_D hDc q h) rfl (fun H1 locs1 hB hz1 hk1 hS => ?_)
    obtain ⟨hP1, hD1⟩ := hB
    obtain ⟨hP, hD⟩ := jnW (wr := []) (w1 := [(ob, .inr (6, [.ref a1, .ref a2, .ref a3, .int (nI n), .ref a4, .int kp, .ref a5, .int (nI len), .int thr, .int (nI (nxF (nn tx) len sp)), .int (b2 (bdF (nn tx) len sp false = true)), .int (nI (lC (nn tx) len sp)), .int (oneF (nn tx) len sp y2), .int (twoF (nn tx) len sp y3), .int y4, .long hash])), (a1, .inl (G.2.1, 97, .inl g2)), (a2, .inl (G.2.1, 97, .inl th)), (a3, .inl (G.2.1, 582, .inl pa)), (a4, .inl (G.2.1, 97, .inl sn)), (a5, .inl (G.2.1, 60, .inl tx))]) hP hD [0, 1, 2, 3, 4, 5] [] rfl rfl (by decide) (by decide) hk1 hP1 hD1
    generalize H1 = H at hP hS ⊢
    have hP : va_P G.1 vwCl [(ob, .inr (6, [.ref a1, .ref a2, .ref a3, .int (nI n), .ref a4, .int kp, .ref a5, .int (nI len), .int thr, .int (nI (nxF (nn tx) len sp)), .int (b2 (bdF (nn tx) len sp false = true)), .int (nI (lC (nn tx) len sp)), .int (oneF (nn tx) len sp y2), .int (twoF (nn tx) len sp y3), .int y4, .long hash])), (a1, .inl (G.2.1, 97, .inl g2)), (a2, .inl (G.2.1, 97, .inl th)), (a3, .inl (G.2.1, 582, .inl pa)), (a4, .inl (G.2.1, 97, .inl sn)), (a5, .inl (G.2.1, 60, .inl tx))] H := hP
    have hD : va_D A [(ob, .inr (6, [.ref a1, .ref a2, .ref a3, .int (nI n), .ref a4, .int kp, .ref a5, .int (nI len), .int thr, .int (nI (nxF (nn tx) len sp)), .int (b2 (bdF (nn tx) len sp false = true)), .int (nI (lC (nn tx) len sp)), .int (oneF (nn tx) len sp y2), .int (twoF (nn tx) len sp y3), .int y4, .long hash])), (a1, .inl (G.2.1, 97, .inl g2)), (a2, .inl (G.2.1, 97, .inl th)), (a3, .inl (G.2.1, 582, .inl pa)), (a4, .inl (G.2.1, 97, .inl sn)), (a5, .inl (G.2.1, 60, .inl tx))] := hD
    refine lv_istore (lv' := [(4, .int (b2 (okF (nn tx) len sp = true))), (3, .int (nI 1)), (2, .int (nI ct)), (0, .ref ob), (1, .int (nI 1))]) hx hb dX6_orders_22 hl (by decide) rfl (fun ls hl => ?_)
    refine lv_iload_n hx hb dX6_orders_24 rfl (lv_at hl 2 rfl) ?_
    refine lv_iload hx hb dX6_orders_25 (lv_at hl 0 rfl) ?_
    refine lv_if_eq (tgt := 34) hx hb dX6_orders_27 (by decide) (fun c27 => ?_) (fun c27 => ?_)
    · skip
      rw [b2_0] at c27
      simp only [Bool.not_eq_true] at c27
      rw [(p_n c27).2.2.1] at i7
      cases i7
    · skip
      rw [b2_1] at c27
      have hb1 : b2 (okF (nn tx) len sp = true) = nI 1 := b2_t c27
      rw [hb1] at hl
      rw [okF_bd c27] at hP hD
      obtain ⟨od1, od2, od3⟩ := od_ok (o1 := y2) (o2 := y3) c27
      have od4 := od_0 (t := nn tx) (n := len) (sp := sp)
      rw [od1, od2] at hP hD
      have hP : va_P G.1 vwCl [(ob, .inr (6, [.ref a1, .ref a2, .ref a3, .int (nI n), .ref a4, .int kp, .ref a5, .int (nI len), .int thr, .int (nI (nxF (nn tx) len sp)), .int (b2 (false = true)), .int (nI (lC (nn tx) len sp)), .int (nI (oX (nn tx) len sp)), .int (nI (oY (nn tx) len sp)), .int y4, .long hash])), (a1, .inl (G.2.1, 97, .inl g2)), (a2, .inl (G.2.1, 97, .inl th)), (a3, .inl (G.2.1, 582, .inl pa)), (a4, .inl (G.2.1, 97, .inl sn)), (a5, .inl (G.2.1, 60, .inl tx))] H := hP
      have hD : va_D A [(ob, .inr (6, [.ref a1, .ref a2, .ref a3, .int (nI n), .ref a4, .int kp, .ref a5, .int (nI len), .int thr, .int (nI (nxF (nn tx) len sp)), .int (b2 (false = true)), .int (nI (lC (nn tx) len sp)), .int (nI (oX (nn tx) len sp)), .int (nI (oY (nn tx) len sp)), .int y4, .long hash])), (a1, .inl (G.2.1, 97, .inl g2)), (a2, .inl (G.2.1, 97, .inl th)), (a3, .inl (G.2.1, 582, .inl pa)), (a4, .inl (G.2.1, 97, .inl sn)), (a5, .inl (G.2.1, 60, .inl tx))] := hD
      have hl : lv_has ls 6 [(4, .int (nI 1)), (3, .int (nI 1)), (2, .int (nI ct)), (0, .ref ob), (1, .int (nI 1))] := hl
      refine lv_iconst (v := nI 1) hx hb dX6_orders_30 (by decide +kernel) ?_
      refine lv_goto (tgt := 35) hx hb dX6_orders_31 (by decide) ?_
      refine iaddN hx hb dX6_orders_35 ?_
      refine lv_istore_n (lv' := [(2, .int (nI (ct + 1))), (4, .int (nI 1)), (3, .int (nI 1)), (0, .ref ob), (1, .int (nI 1))]) hx hb dX6_orders_36 rfl hl (by decide) rfl (fun ls hl => ?_)
      refine lv_iload hx hb dX6_orders_37 (lv_at hl 1 rfl) ?_
      refine lv_if_eq (tgt := 57) hx hb dX6_orders_39 (by decide) (fun c39 => ?_) (fun c39 => ?_)
      · skip
        exact absurd c39 (by decide)
      · skip
        refine lv_iload_n hx hb dX6_orders_42 rfl (lv_at hl 4 rfl) ?_
        refine lv_if_eq (tgt := 53) hx hb dX6_orders_43 (by decide) (fun c43 => ?_) (fun c43 => ?_)
        · skip
          exact absurd c43 (by decide)
        · skip
          refine lv_aload_n hx hb dX6_orders_46 rfl (lv_at hl 3 rfl) ?_
          have hPc := hP.sub (ws' := [(ob, .inr (6, [.ref a1, .ref a2, .ref a3, .int (nI n), .ref a4, .int kp, .ref a5, .int (nI len), .int thr, .int (nI (nxF (nn tx) len sp)), .int (b2 (false = true)), .int (nI (lC (nn tx) len sp)), .int (nI (oX (nn tx) len sp)), .int (nI (oY (nn tx) len sp)), .int y4, .long hash])), (a1, .inl (G.2.1, 97, .inl g2)), (a2, .inl (G.2.1, 97, .inl th)), (a3, .inl (G.2.1, 582, .inl pa)), (a4, .inl (G.2.1, 97, .inl sn)), (a5, .inl (G.2.1, 60, .inl tx))]) [0, 1, 2, 3, 4, 5] rfl
          have hDc := hD.sub (ws' := [(ob, .inr (6, [.ref a1, .ref a2, .ref a3, .int (nI n), .ref a4, .int kp, .ref a5, .int (nI len), .int thr, .int (nI (nxF (nn tx) len sp)), .int (b2 (false = true)), .int (nI (lC (nn tx) len sp)), .int (nI (oX (nn tx) len sp)), .int (nI (oY (nn tx) len sp)), .int y4, .long hash])), (a1, .inl (G.2.1, 97, .inl g2)), (a2, .inl (G.2.1, 97, .inl th)), (a3, .inl (G.2.1, 582, .inl pa)), (a4, .inl (G.2.1, 97, .inl sn)), (a5, .inl (G.2.1, 60, .inl tx))]) [0, 1, 2, 3, 4, 5] (by decide) rfl
          refine mcall (st1 := [.int (b2 (cnD g2 (lC (nn tx) len sp) (oX (nn tx) len sp) = true))]) (va_runV (As := []) (rest := []) ⟨hx, hb, hml, hown, hts⟩ (c_X6_canDo l G ob a1 a2 a3 a4 a5 g2 th pa sn tx n len (nxF (nn tx) len sp) kp thr (b2 (false = true)) (nI (lC (nn tx) len sp)) (nI (oX (nn tx) len sp)) (nI (oY (nn tx) len sp)) y4 hash _ (by omega) i6 (lC (nn tx) len sp) (oX (nn tx) len sp) (oY (nn tx) len sp) od3 od4) (cwV 0 hts gX6_orders_X6_canDo rfl rfl rfl (by decide +kernel) ⟨Nat.le_of_ble_eq_true rfl, Nat.le_of_ble_eq_true rfl⟩) (PC.preV hE (va_recv hE.1 hP (ci := 6) (q0 := 0) rfl rfl) ⟨hPc, hDc.weaken (fun _ _ _ _ => trivial)⟩) rfl rfl hl.1 rfl (lv_room (Nat.le_of_ble_eq_true rfl)) dX6_orders_47 ⟨Nat.zero_le _, Nat.zero_le _⟩) hS (fun q _ h => inW_D hDc q h) (fun q h => inW_D hDc q h) rfl (fun H1 locs1 hB hz1 hk1 hS => ?_)
          obtain ⟨hP1, hD1⟩ := hB
          obtain ⟨hP, hD⟩ := jnW (wr := []) (w1 := [(ob, .inr (6, [.ref a1, .ref a2, .ref a3, .int (nI n), .ref a4, .int kp, .ref a5, .int (nI len), .int thr, .int (nI (nxF (nn tx) len sp)), .int (b2 (false = true)), .int (nI (lC (nn tx) len sp)), .int (nI (oX (nn tx) len sp)), .int (nI (oY (nn tx) len sp)), .int y4, .long hash])), (a1, .inl (G.2.1, 97, .inl (exD g2 (lC (nn tx) len sp) (oX (nn tx) len sp) (oY (nn tx) len sp)))), (a2, .inl (G.2.1, 97, .inl th)), (a3, .inl (G.2.1, 582, .inl pa)), (a4, .inl (G.2.1, 97, .inl sn)), (a5, .inl (G.2.1, 60, .inl tx))]) hP hD [0, 1, 2, 3, 4, 5] [] rfl rfl (by decide) (by decide) hk1 hP1 hD1
          generalize H1 = H at hP hS ⊢
          have hP : va_P G.1 vwCl [(ob, .inr (6, [.ref a1, .ref a2, .ref a3, .int (nI n), .ref a4, .int kp, .ref a5, .int (nI len), .int thr, .int (nI (nxF (nn tx) len sp)), .int (b2 (false = true)), .int (nI (lC (nn tx) len sp)), .int (nI (oX (nn tx) len sp)), .int (nI (oY (nn tx) len sp)), .int y4, .long hash])), (a1, .inl (G.2.1, 97, .inl (exD g2 (lC (nn tx) len sp) (oX (nn tx) len sp) (oY (nn tx) len sp)))), (a2, .inl (G.2.1, 97, .inl th)), (a3, .inl (G.2.1, 582, .inl pa)), (a4, .inl (G.2.1, 97, .inl sn)), (a5, .inl (G.2.1, 60, .inl tx))] H := hP
          have hD : va_D A [(ob, .inr (6, [.ref a1, .ref a2, .ref a3, .int (nI n), .ref a4, .int kp, .ref a5, .int (nI len), .int thr, .int (nI (nxF (nn tx) len sp)), .int (b2 (false = true)), .int (nI (lC (nn tx) len sp)), .int (nI (oX (nn tx) len sp)), .int (nI (oY (nn tx) len sp)), .int y4, .long hash])), (a1, .inl (G.2.1, 97, .inl (exD g2 (lC (nn tx) len sp) (oX (nn tx) len sp) (oY (nn tx) len sp)))), (a2, .inl (G.2.1, 97, .inl th)), (a3, .inl (G.2.1, 582, .inl pa)), (a4, .inl (G.2.1, 97, .inl sn)), (a5, .inl (G.2.1, 60, .inl tx))] := hD
          refine lv_if_eq (tgt := 57) hx hb dX6_orders_50 (by decide) (fun c50 => ?_) (fun c50 => ?_)
          · skip
            rw [b2_0] at c50
            rw [show exD g2 (lC (nn tx) len sp) (oX (nn tx) len sp) (oY (nn tx) len sp) = g2 from if_neg c50] at hP hD
            have hP : va_P G.1 vwCl [(ob, .inr (6, [.ref a1, .ref a2, .ref a3, .int (nI n), .ref a4, .int kp, .ref a5, .int (nI len), .int thr, .int (nI (nxF (nn tx) len sp)), .int (b2 (false = true)), .int (nI (lC (nn tx) len sp)), .int (nI (oX (nn tx) len sp)), .int (nI (oY (nn tx) len sp)), .int y4, .long hash])), (a1, .inl (G.2.1, 97, .inl g2)), (a2, .inl (G.2.1, 97, .inl th)), (a3, .inl (G.2.1, 582, .inl pa)), (a4, .inl (G.2.1, 97, .inl sn)), (a5, .inl (G.2.1, 60, .inl tx))] H := hP
            have hD : va_D A [(ob, .inr (6, [.ref a1, .ref a2, .ref a3, .int (nI n), .ref a4, .int kp, .ref a5, .int (nI len), .int thr, .int (nI (nxF (nn tx) len sp)), .int (b2 (false = true)), .int (nI (lC (nn tx) len sp)), .int (nI (oX (nn tx) len sp)), .int (nI (oY (nn tx) len sp)), .int y4, .long hash])), (a1, .inl (G.2.1, 97, .inl g2)), (a2, .inl (G.2.1, 97, .inl th)), (a3, .inl (G.2.1, 582, .inl pa)), (a4, .inl (G.2.1, 97, .inl sn)), (a5, .inl (G.2.1, 60, .inl tx))] := hD
            refine lv_iconst (v := nI 0) hx hb dX6_orders_57 (by decide +kernel) ?_
            refine lv_istore (lv' := [(5, .int (nI 0)), (2, .int (nI (ct + 1))), (4, .int (nI 1)), (3, .int (nI 1)), (0, .ref ob), (1, .int (nI 1))]) hx hb dX6_orders_58 hl (by decide) rfl (fun ls hl => ?_)
            refine lv_iload hx hb dX6_orders_60 (lv_at hl 2 rfl) ?_
            refine lv_if_eq (tgt := 74) hx hb dX6_orders_62 (by decide) (fun c62 => ?_) (fun c62 => ?_)
            · skip
              exact absurd c62 (by decide)
            · skip
              refine lv_iload hx hb dX6_orders_65 (lv_at hl 0 rfl) ?_
              refine lv_if_ne (tgt := 74) hx hb dX6_orders_67 (by decide) (fun c67 => ?_) (fun c67 => ?_)
              · skip
                exact absurd c67 (by decide)
              · skip
                refine lv_iload_n hx hb dX6_orders_70 rfl (lv_at hl 1 rfl) ?_
                refine lv_iconst (v := nI 1) hx hb dX6_orders_71 (by decide +kernel) ?_
                refine isubN hx hb (by omega) dX6_orders_72 ?_
                refine tS (st' := [.int (nI (xC (nn tx) len (len + 1) 0 f))]) (congrArg (fun z => [Value.int z]) (congrArg nI (by rw [(x_n c50).2] at i5; omega))) ?_
                exact W.iret hx hb hr (fun t ht hW => ⟨rfl, by rw [ht]; exact ⟨_, _, _, _, _, _, by rw [← i4, (x_n c50).1]; exact hP, by rw [← i4, (x_n c50).1]; exact hD⟩, hS.F ht⟩) hS.2.2 dX6_orders_73
          · skip
            rw [b2_1] at c50
            rw [show exD g2 (lC (nn tx) len sp) (oX (nn tx) len sp) (oY (nn tx) len sp) = doD g2 (lC (nn tx) len sp) (oX (nn tx) len sp) (oY (nn tx) len sp) from if_pos c50] at hP hD
            have hP : va_P G.1 vwCl [(ob, .inr (6, [.ref a1, .ref a2, .ref a3, .int (nI n), .ref a4, .int kp, .ref a5, .int (nI len), .int thr, .int (nI (nxF (nn tx) len sp)), .int (b2 (false = true)), .int (nI (lC (nn tx) len sp)), .int (nI (oX (nn tx) len sp)), .int (nI (oY (nn tx) len sp)), .int y4, .long hash])), (a1, .inl (G.2.1, 97, .inl (doD g2 (lC (nn tx) len sp) (oX (nn tx) len sp) (oY (nn tx) len sp)))), (a2, .inl (G.2.1, 97, .inl th)), (a3, .inl (G.2.1, 582, .inl pa)), (a4, .inl (G.2.1, 97, .inl sn)), (a5, .inl (G.2.1, 60, .inl tx))] H := hP
            have hD : va_D A [(ob, .inr (6, [.ref a1, .ref a2, .ref a3, .int (nI n), .ref a4, .int kp, .ref a5, .int (nI len), .int thr, .int (nI (nxF (nn tx) len sp)), .int (b2 (false = true)), .int (nI (lC (nn tx) len sp)), .int (nI (oX (nn tx) len sp)), .int (nI (oY (nn tx) len sp)), .int y4, .long hash])), (a1, .inl (G.2.1, 97, .inl (doD g2 (lC (nn tx) len sp) (oX (nn tx) len sp) (oY (nn tx) len sp)))), (a2, .inl (G.2.1, 97, .inl th)), (a3, .inl (G.2.1, 582, .inl pa)), (a4, .inl (G.2.1, 97, .inl sn)), (a5, .inl (G.2.1, 60, .inl tx))] := hD
            refine lv_iconst (v := nI 1) hx hb dX6_orders_53 (by decide +kernel) ?_
            refine lv_goto (tgt := 58) hx hb dX6_orders_54 (by decide) ?_
            refine lv_istore (lv' := [(5, .int (nI 1)), (2, .int (nI (ct + 1))), (4, .int (nI 1)), (3, .int (nI 1)), (0, .ref ob), (1, .int (nI 1))]) hx hb dX6_orders_58 hl (by decide) rfl (fun ls hl => ?_)
            refine lv_iload hx hb dX6_orders_60 (lv_at hl 2 rfl) ?_
            refine lv_if_eq (tgt := 74) hx hb dX6_orders_62 (by decide) (fun c62 => ?_) (fun c62 => ?_)
            · skip
              exact absurd c62 (by decide)
            · skip
              refine lv_iload hx hb dX6_orders_65 (lv_at hl 0 rfl) ?_
              refine lv_if_ne (tgt := 74) hx hb dX6_orders_67 (by decide) (fun c67 => ?_) (fun c67 => ?_)
              · skip
                refine lv_iload hx hb dX6_orders_74 (lv_at hl 2 rfl) ?_
                refine lv_if_eq (tgt := 94) hx hb dX6_orders_76 (by decide) (fun c76 => ?_) (fun c76 => ?_)
                · skip
                  exact absurd c76 (by decide)
                · skip
                  refine lv_aload_n hx hb dX6_orders_79 rfl (lv_at hl 4 rfl) ?_
                  refine lv_bipush (v := nI 59) hx hb dX6_orders_80 (by decide +kernel) ?_
                  refine lv_bipush (v := nI 59) hx hb dX6_orders_82 (by decide +kernel) ?_
                  refine pcall (st1 := [.int (b2 (tkP (nn tx) len (nxF (nn tx) len sp) 59 59))]) (va_runV (As := [.int (nI 59), .int (nI 59)]) (rest := []) ⟨hx, hb, hml, hown, hts⟩ (c_X6_sees l G ob a1 a2 a3 a4 a5 (doD g2 (lC (nn tx) len sp) (oX (nn tx) len sp) (oY (nn tx) len sp)) th pa sn tx n len (nxF (nn tx) len sp) kp thr (b2 (false = true)) (nI (lC (nn tx) len sp)) (nI (oX (nn tx) len sp)) (nI (oY (nn tx) len sp)) y4 hash htx hn2 59 59 (by first | omega | (unfold hiM; split <;> omega)) (by first | omega | (unfold hiM; split <;> omega))) (cwV 2 hts gX6_orders_X6_sees rfl rfl rfl (by decide +kernel) ⟨Nat.le_of_ble_eq_true rfl, Nat.le_of_ble_eq_true rfl⟩) (PC.preV hE (va_recv hE.1 hP (ci := 6) (q0 := 0) rfl rfl) hP) rfl rfl hl.1 rfl (lv_room (Nat.le_of_ble_eq_true rfl)) dX6_orders_84 ⟨Nat.zero_le _, Nat.zero_le _⟩) rfl ?_
                  refine lv_if_eq (tgt := 94) hx hb dX6_orders_87 (by decide) (fun c87 => ?_) (fun c87 => ?_)
                  · skip
                    rw [b2_0] at c87
                    refine lv_iconst (v := nI 0) hx hb dX6_orders_94 (by decide +kernel) ?_
                    refine lv_istore_n (lv' := [(3, .int (nI 0)), (5, .int (nI 1)), (2, .int (nI (ct + 1))), (4, .int (nI 1)), (0, .ref ob), (1, .int (nI 1))]) hx hb dX6_orders_95 rfl hl (by decide) rfl (fun ls hl => ?_)
                    refine lv_aload_n hx hb dX6_orders_96 rfl (lv_at hl 4 rfl) ?_
                    refine lv_dup hx hb dX6_orders_97 rfl ?_
                    refine va_get (D := G.1) (ci := 6) (v := .int (nI (nxF (nn tx) len sp))) (C := RX6) (T := TX6) (N := 16) hx hb hts w_0 hown hE.1 hP 0 rfl rfl 9 (by decide) w_1 (fun _ h9 => h9) rfl dX6_orders_98 ?_
                    refine lv_iload_n hx hb dX6_orders_101 rfl (lv_at hl 0 rfl) ?_
                    refine lv_if_eq (tgt := 109) hx hb dX6_orders_102 (by decide) (fun c102 => ?_) (fun c102 => ?_)
                    · skip
                      refine lv_iconst (v := nI 0) hx hb dX6_orders_109 (by decide +kernel) ?_
                      refine iaddN hx hb dX6_orders_110 ?_
                      refine va_put (D := G.1) (ci := 6) (v := .int (nI ((nxF (nn tx) len sp) + 0))) (ty := .int) (C := RX6) (T := TX6) (N := 16) hx hb hts w_0 tyX6 tyX6_ok nmX6 hown hE.1 hP hD hS 0 rfl rfl 9 (by decide) w_1 (fun _ h9 => h9) rfl (by decide +kernel) rfl rfl (Nat.le_of_ble_eq_true rfl) dX6_orders_111 (fun H locs hP hD hS => ?_)
                      have hP : va_P G.1 vwCl [(ob, .inr (6, [.ref a1, .ref a2, .ref a3, .int (nI n), .ref a4, .int kp, .ref a5, .int (nI len), .int thr, .int (nI ((nxF (nn tx) len sp) + 0)), .int (b2 (false = true)), .int (nI (lC (nn tx) len sp)), .int (nI (oX (nn tx) len sp)), .int (nI (oY (nn tx) len sp)), .int y4, .long hash])), (a1, .inl (G.2.1, 97, .inl (doD g2 (lC (nn tx) len sp) (oX (nn tx) len sp) (oY (nn tx) len sp)))), (a2, .inl (G.2.1, 97, .inl th)), (a3, .inl (G.2.1, 582, .inl pa)), (a4, .inl (G.2.1, 97, .inl sn)), (a5, .inl (G.2.1, 60, .inl tx))] H := hP
                      have hD : va_D A [(ob, .inr (6, [.ref a1, .ref a2, .ref a3, .int (nI n), .ref a4, .int kp, .ref a5, .int (nI len), .int thr, .int (nI ((nxF (nn tx) len sp) + 0)), .int (b2 (false = true)), .int (nI (lC (nn tx) len sp)), .int (nI (oX (nn tx) len sp)), .int (nI (oY (nn tx) len sp)), .int y4, .long hash])), (a1, .inl (G.2.1, 97, .inl (doD g2 (lC (nn tx) len sp) (oX (nn tx) len sp) (oY (nn tx) len sp)))), (a2, .inl (G.2.1, 97, .inl th)), (a3, .inl (G.2.1, 582, .inl pa)), (a4, .inl (G.2.1, 97, .inl sn)), (a5, .inl (G.2.1, 60, .inl tx))] := hD
                      refine lv_aload_n hx hb dX6_orders_114 rfl (lv_at hl 4 rfl) ?_
                      refine lv_aload_n hx hb dX6_orders_115 rfl (lv_at hl 4 rfl) ?_
                      refine va_get (D := G.1) (ci := 6) (v := .int (b2 (false = true))) (C := RX6) (T := TX6) (N := 16) hx hb hts w_0 hown hE.1 hP 0 rfl rfl 10 (by decide) w_2 (fun _ h9 => h9) rfl dX6_orders_116 ?_
                      refine tI (y := nI 0) ((b2_f (by decide))) ?_
                      refine lv_if_ne (tgt := 142) hx hb dX6_orders_119 (by decide) (fun c119 => ?_) (fun c119 => ?_)
                      · skip
                        exact absurd c119 (by decide)
                      · skip
                        refine lv_iload hx hb dX6_orders_122 (lv_at hl 3 rfl) ?_
                        refine lv_if_eq (tgt := 146) hx hb dX6_orders_124 (by decide) (fun c124 => ?_) (fun c124 => ?_)
                        · skip
                          exact absurd c124 (by decide)
                        · skip
                          refine lv_iload_n hx hb dX6_orders_127 rfl (lv_at hl 0 rfl) ?_
                          refine lv_if_ne (tgt := 146) hx hb dX6_orders_128 (by decide) (fun c128 => ?_) (fun c128 => ?_)
                          · skip
                            exact absurd c128 (by decide)
                          · skip
                            refine lv_aload_n hx hb dX6_orders_131 rfl (lv_at hl 4 rfl) ?_
                            refine va_get (D := G.1) (ci := 6) (v := .int (nI ((nxF (nn tx) len sp) + 0))) (C := RX6) (T := TX6) (N := 16) hx hb hts w_0 hown hE.1 hP 0 rfl rfl 9 (by decide) w_1 (fun _ h9 => h9) rfl dX6_orders_132 ?_
                            refine lv_aload_n hx hb dX6_orders_135 rfl (lv_at hl 4 rfl) ?_
                            refine va_get (D := G.1) (ci := 6) (v := .int (nI len)) (C := RX6) (T := TX6) (N := 16) hx hb hts w_0 hown hE.1 hP 0 rfl rfl 7 (by decide) w_3 (fun _ h9 => h9) rfl dX6_orders_136 ?_
                            refine cutL (σ := Int32) (n := 6) (pc1 := 147) (fun r => r = b2 (decide (nxF (nn tx) len sp < len) = true)) (fun r => [(3, .int (nI 0)), (5, .int (nI 1)), (2, .int (nI (ct + 1))), (4, .int (nI 1)), (0, .ref ob), (1, .int (nI 1))]) (fun r => [.int r, .ref ob]) ?_ (fun J147 => ?_)
                            · rintro r ls hI hl
                              replace hI : r = b2 (decide (nxF (nn tx) len sp < len) = true) := hI
                              subst hI
                              have hl : lv_has ls 6 [(3, .int (nI 0)), (5, .int (nI 1)), (2, .int (nI (ct + 1))), (4, .int (nI 1)), (0, .ref ob), (1, .int (nI 1))] := hl
                              refine tS (st' := [.int (b2 (decide (nxF (nn tx) len sp < len) = true)), .ref ob]) rfl ?_
                              refine va_put (D := G.1) (ci := 6) (v := .int (b2 (decide (nxF (nn tx) len sp < len) = true))) (ty := .boolean) (C := RX6) (T := TX6) (N := 16) hx hb hts w_0 tyX6 tyX6_ok nmX6 hown hE.1 hP hD hS 0 rfl rfl 10 (by decide) w_2 (fun _ h9 => h9) rfl (by decide +kernel) (b2_z _) (b2_fit _) (Nat.le_of_ble_eq_true rfl) dX6_orders_147 (fun H locs hP hD hS => ?_)
                              have hP : va_P G.1 vwCl [(ob, .inr (6, [.ref a1, .ref a2, .ref a3, .int (nI n), .ref a4, .int kp, .ref a5, .int (nI len), .int thr, .int (nI ((nxF (nn tx) len sp) + 0)), .int (b2 (decide (nxF (nn tx) len sp < len) = true)), .int (nI (lC (nn tx) len sp)), .int (nI (oX (nn tx) len sp)), .int (nI (oY (nn tx) len sp)), .int y4, .long hash])), (a1, .inl (G.2.1, 97, .inl (doD g2 (lC (nn tx) len sp) (oX (nn tx) len sp) (oY (nn tx) len sp)))), (a2, .inl (G.2.1, 97, .inl th)), (a3, .inl (G.2.1, 582, .inl pa)), (a4, .inl (G.2.1, 97, .inl sn)), (a5, .inl (G.2.1, 60, .inl tx))] H := hP
                              have hD : va_D A [(ob, .inr (6, [.ref a1, .ref a2, .ref a3, .int (nI n), .ref a4, .int kp, .ref a5, .int (nI len), .int thr, .int (nI ((nxF (nn tx) len sp) + 0)), .int (b2 (decide (nxF (nn tx) len sp < len) = true)), .int (nI (lC (nn tx) len sp)), .int (nI (oX (nn tx) len sp)), .int (nI (oY (nn tx) len sp)), .int y4, .long hash])), (a1, .inl (G.2.1, 97, .inl (doD g2 (lC (nn tx) len sp) (oX (nn tx) len sp) (oY (nn tx) len sp)))), (a2, .inl (G.2.1, 97, .inl th)), (a3, .inl (G.2.1, 582, .inl pa)), (a4, .inl (G.2.1, 97, .inl sn)), (a5, .inl (G.2.1, 60, .inl tx))] := hD
                              refine lv_aload_n hx hb dX6_orders_150 rfl (lv_at hl 4 rfl) ?_
                              refine lv_iload hx hb dX6_orders_151 (lv_at hl 3 rfl) ?_
                              refine lv_if_eq (tgt := 175) hx hb dX6_orders_153 (by decide) (fun c153 => ?_) (fun c153 => ?_)
                              · skip
                                exact absurd c153 (by decide)
                              · skip
                                refine lv_iload_n hx hb dX6_orders_156 rfl (lv_at hl 0 rfl) ?_
                                refine lv_if_ne (tgt := 175) hx hb dX6_orders_157 (by decide) (fun c157 => ?_) (fun c157 => ?_)
                                · skip
                                  exact absurd c157 (by decide)
                                · skip
                                  refine lv_aload_n hx hb dX6_orders_160 rfl (lv_at hl 4 rfl) ?_
                                  refine va_get (D := G.1) (ci := 6) (v := .int (nI ((nxF (nn tx) len sp) + 0))) (C := RX6) (T := TX6) (N := 16) hx hb hts w_0 hown hE.1 hP 0 rfl rfl 9 (by decide) w_1 (fun _ h9 => h9) rfl dX6_orders_161 ?_
                                  refine lv_aload_n hx hb dX6_orders_164 rfl (lv_at hl 4 rfl) ?_
                                  refine va_get (D := G.1) (ci := 6) (v := .int (nI len)) (C := RX6) (T := TX6) (N := 16) hx hb hts w_0 hown hE.1 hP 0 rfl rfl 7 (by decide) w_3 (fun _ h9 => h9) rfl dX6_orders_165 ?_
                                  refine cutL (σ := Int32) (n := 6) (pc1 := 176) (fun r => r = b2 (decide (nxF (nn tx) len sp = len) = true)) (fun r => [(3, .int (nI 0)), (5, .int (nI 1)), (2, .int (nI (ct + 1))), (4, .int (nI 1)), (0, .ref ob), (1, .int (nI 1))]) (fun r => [.int r, .ref ob]) ?_ (fun J176 => ?_)
                                  · rintro r ls hI hl
                                    replace hI : r = b2 (decide (nxF (nn tx) len sp = len) = true) := hI
                                    subst hI
                                    have hl : lv_has ls 6 [(3, .int (nI 0)), (5, .int (nI 1)), (2, .int (nI (ct + 1))), (4, .int (nI 1)), (0, .ref ob), (1, .int (nI 1))] := hl
                                    refine tS (st' := [.int (b2 (decide (nxF (nn tx) len sp = len) = true)), .ref ob]) rfl ?_
                                    refine va_put (D := G.1) (ci := 6) (v := .int (b2 (decide (nxF (nn tx) len sp = len) = true))) (ty := .boolean) (C := RX6) (T := TX6) (N := 16) hx hb hts w_0 tyX6 tyX6_ok nmX6 hown hE.1 hP hD hS 0 rfl rfl 14 (by decide) w_4 (fun _ h9 => h9) rfl (by decide +kernel) (b2_z _) (b2_fit _) (Nat.le_of_ble_eq_true rfl) dX6_orders_176 (fun H locs hP hD hS => ?_)
                                    have hP : va_P G.1 vwCl [(ob, .inr (6, [.ref a1, .ref a2, .ref a3, .int (nI n), .ref a4, .int kp, .ref a5, .int (nI len), .int thr, .int (nI ((nxF (nn tx) len sp) + 0)), .int (b2 (decide (nxF (nn tx) len sp < len) = true)), .int (nI (lC (nn tx) len sp)), .int (nI (oX (nn tx) len sp)), .int (nI (oY (nn tx) len sp)), .int (b2 (decide (nxF (nn tx) len sp = len) = true)), .long hash])), (a1, .inl (G.2.1, 97, .inl (doD g2 (lC (nn tx) len sp) (oX (nn tx) len sp) (oY (nn tx) len sp)))), (a2, .inl (G.2.1, 97, .inl th)), (a3, .inl (G.2.1, 582, .inl pa)), (a4, .inl (G.2.1, 97, .inl sn)), (a5, .inl (G.2.1, 60, .inl tx))] H := hP
                                    have hD : va_D A [(ob, .inr (6, [.ref a1, .ref a2, .ref a3, .int (nI n), .ref a4, .int kp, .ref a5, .int (nI len), .int thr, .int (nI ((nxF (nn tx) len sp) + 0)), .int (b2 (decide (nxF (nn tx) len sp < len) = true)), .int (nI (lC (nn tx) len sp)), .int (nI (oX (nn tx) len sp)), .int (nI (oY (nn tx) len sp)), .int (b2 (decide (nxF (nn tx) len sp = len) = true)), .long hash])), (a1, .inl (G.2.1, 97, .inl (doD g2 (lC (nn tx) len sp) (oX (nn tx) len sp) (oY (nn tx) len sp)))), (a2, .inl (G.2.1, 97, .inl th)), (a3, .inl (G.2.1, 582, .inl pa)), (a4, .inl (G.2.1, 97, .inl sn)), (a5, .inl (G.2.1, 60, .inl tx))] := hD
                                    refine lv_goto (tgt := 14) hx hb dX6_orders_179 (by decide) ?_
                                    refine lv_iload_n hx hb dX6_orders_14 rfl (lv_at hl 0 rfl) ?_
                                    refine lv_if_eq (tgt := 182) hx hb dX6_orders_15 (by decide) (fun c15 => ?_) (fun c15 => ?_)
                                    · skip
                                      refine lv_iload_n hx hb dX6_orders_182 rfl (lv_at hl 2 rfl) ?_
                                      refine tS (st' := [.int (nI (xC (nn tx) len (len + 1) 0 f))]) (congrArg (fun z => [Value.int z]) (congrArg nI (by rw [(x_e c50 c87).2] at i5; omega))) ?_
                                      exact W.iret hx hb hr (fun t ht hW => ⟨rfl, by rw [ht]; exact ⟨_, _, _, _, _, _, by rw [← i4, (x_e c50 c87).1]; exact hP, by rw [← i4, (x_e c50 c87).1]; exact hD⟩, hS.F ht⟩) hS.2.2 dX6_orders_183
                                    · skip
                                      exact absurd c15 (by decide)
                                  · skip
                                    refine icmp_neN (tgt := 175) hx hb (by omega) (by omega) dX6_orders_168 (by decide) (fun c168 => ?_) (fun c168 => ?_)
                                    · skip
                                      refine lv_iconst (v := nI 0) hx hb dX6_orders_175 (by decide +kernel) ?_
                                      exact J176 (nI 0) _ (by simp only [b2, decide_eq_true_eq]; split <;> first | rfl | omega) (lv_sub hl [0, 1, 2, 3, 4, 5] rfl)
                                    · skip
                                      refine lv_iconst (v := nI 1) hx hb dX6_orders_171 (by decide +kernel) ?_
                                      refine lv_goto (tgt := 176) hx hb dX6_orders_172 (by decide) ?_
                                      exact J176 (nI 1) _ (by simp only [b2, decide_eq_true_eq]; split <;> first | rfl | omega) (lv_sub hl [0, 1, 2, 3, 4, 5] rfl)
                            · skip
                              refine icmp_geN (tgt := 146) hx hb (by omega) (by omega) dX6_orders_139 (by decide) (fun c139 => ?_) (fun c139 => ?_)
                              · skip
                                refine lv_iconst (v := nI 0) hx hb dX6_orders_146 (by decide +kernel) ?_
                                exact J147 (nI 0) _ (by simp only [b2, decide_eq_true_eq]; split <;> first | rfl | omega) (lv_sub hl [0, 1, 2, 3, 4, 5] rfl)
                              · skip
                                refine lv_iconst (v := nI 1) hx hb dX6_orders_142 (by decide +kernel) ?_
                                refine lv_goto (tgt := 147) hx hb dX6_orders_143 (by decide) ?_
                                exact J147 (nI 1) _ (by simp only [b2, decide_eq_true_eq]; split <;> first | rfl | omega) (lv_sub hl [0, 1, 2, 3, 4, 5] rfl)
                    · skip
                      exact absurd c102 (by decide)
                  · skip
                    rw [b2_1] at c87
                    refine lv_iconst (v := nI 1) hx hb dX6_orders_90 (by decide +kernel) ?_
                    refine lv_goto (tgt := 95) hx hb dX6_orders_91 (by decide) ?_
                    refine lv_istore_n (lv' := [(3, .int (nI 1)), (5, .int (nI 1)), (2, .int (nI (ct + 1))), (4, .int (nI 1)), (0, .ref ob), (1, .int (nI 1))]) hx hb dX6_orders_95 rfl hl (by decide) rfl (fun ls hl => ?_)
                    refine lv_aload_n hx hb dX6_orders_96 rfl (lv_at hl 4 rfl) ?_
                    refine lv_dup hx hb dX6_orders_97 rfl ?_
                    refine va_get (D := G.1) (ci := 6) (v := .int (nI (nxF (nn tx) len sp))) (C := RX6) (T := TX6) (N := 16) hx hb hts w_0 hown hE.1 hP 0 rfl rfl 9 (by decide) w_1 (fun _ h9 => h9) rfl dX6_orders_98 ?_
                    refine lv_iload_n hx hb dX6_orders_101 rfl (lv_at hl 0 rfl) ?_
                    refine lv_if_eq (tgt := 109) hx hb dX6_orders_102 (by decide) (fun c102 => ?_) (fun c102 => ?_)
                    · skip
                      exact absurd c102 (by decide)
                    · skip
                      refine lv_iconst (v := nI 1) hx hb dX6_orders_105 (by decide +kernel) ?_
                      refine lv_goto (tgt := 110) hx hb dX6_orders_106 (by decide) ?_
                      refine iaddN hx hb dX6_orders_110 ?_
                      refine va_put (D := G.1) (ci := 6) (v := .int (nI ((nxF (nn tx) len sp) + 1))) (ty := .int) (C := RX6) (T := TX6) (N := 16) hx hb hts w_0 tyX6 tyX6_ok nmX6 hown hE.1 hP hD hS 0 rfl rfl 9 (by decide) w_1 (fun _ h9 => h9) rfl (by decide +kernel) rfl rfl (Nat.le_of_ble_eq_true rfl) dX6_orders_111 (fun H locs hP hD hS => ?_)
                      have hP : va_P G.1 vwCl [(ob, .inr (6, [.ref a1, .ref a2, .ref a3, .int (nI n), .ref a4, .int kp, .ref a5, .int (nI len), .int thr, .int (nI ((nxF (nn tx) len sp) + 1)), .int (b2 (false = true)), .int (nI (lC (nn tx) len sp)), .int (nI (oX (nn tx) len sp)), .int (nI (oY (nn tx) len sp)), .int y4, .long hash])), (a1, .inl (G.2.1, 97, .inl (doD g2 (lC (nn tx) len sp) (oX (nn tx) len sp) (oY (nn tx) len sp)))), (a2, .inl (G.2.1, 97, .inl th)), (a3, .inl (G.2.1, 582, .inl pa)), (a4, .inl (G.2.1, 97, .inl sn)), (a5, .inl (G.2.1, 60, .inl tx))] H := hP
                      have hD : va_D A [(ob, .inr (6, [.ref a1, .ref a2, .ref a3, .int (nI n), .ref a4, .int kp, .ref a5, .int (nI len), .int thr, .int (nI ((nxF (nn tx) len sp) + 1)), .int (b2 (false = true)), .int (nI (lC (nn tx) len sp)), .int (nI (oX (nn tx) len sp)), .int (nI (oY (nn tx) len sp)), .int y4, .long hash])), (a1, .inl (G.2.1, 97, .inl (doD g2 (lC (nn tx) len sp) (oX (nn tx) len sp) (oY (nn tx) len sp)))), (a2, .inl (G.2.1, 97, .inl th)), (a3, .inl (G.2.1, 582, .inl pa)), (a4, .inl (G.2.1, 97, .inl sn)), (a5, .inl (G.2.1, 60, .inl tx))] := hD
                      refine lv_aload_n hx hb dX6_orders_114 rfl (lv_at hl 4 rfl) ?_
                      refine lv_aload_n hx hb dX6_orders_115 rfl (lv_at hl 4 rfl) ?_
                      refine va_get (D := G.1) (ci := 6) (v := .int (b2 (false = true))) (C := RX6) (T := TX6) (N := 16) hx hb hts w_0 hown hE.1 hP 0 rfl rfl 10 (by decide) w_2 (fun _ h9 => h9) rfl dX6_orders_116 ?_
                      refine tI (y := nI 0) ((b2_f (by decide))) ?_
                      refine lv_if_ne (tgt := 142) hx hb dX6_orders_119 (by decide) (fun c119 => ?_) (fun c119 => ?_)
                      · skip
                        exact absurd c119 (by decide)
                      · skip
                        refine lv_iload hx hb dX6_orders_122 (lv_at hl 3 rfl) ?_
                        refine lv_if_eq (tgt := 146) hx hb dX6_orders_124 (by decide) (fun c124 => ?_) (fun c124 => ?_)
                        · skip
                          exact absurd c124 (by decide)
                        · skip
                          refine lv_iload_n hx hb dX6_orders_127 rfl (lv_at hl 0 rfl) ?_
                          refine lv_if_ne (tgt := 146) hx hb dX6_orders_128 (by decide) (fun c128 => ?_) (fun c128 => ?_)
                          · skip
                            refine lv_iconst (v := nI 0) hx hb dX6_orders_146 (by decide +kernel) ?_
                            refine va_put (D := G.1) (ci := 6) (v := .int (nI 0)) (ty := .boolean) (C := RX6) (T := TX6) (N := 16) hx hb hts w_0 tyX6 tyX6_ok nmX6 hown hE.1 hP hD hS 0 rfl rfl 10 (by decide) w_2 (fun _ h9 => h9) rfl (by decide +kernel) rfl (by decide +kernel) (Nat.le_of_ble_eq_true rfl) dX6_orders_147 (fun H locs hP hD hS => ?_)
                            have hP : va_P G.1 vwCl [(ob, .inr (6, [.ref a1, .ref a2, .ref a3, .int (nI n), .ref a4, .int kp, .ref a5, .int (nI len), .int thr, .int (nI ((nxF (nn tx) len sp) + 1)), .int (nI 0), .int (nI (lC (nn tx) len sp)), .int (nI (oX (nn tx) len sp)), .int (nI (oY (nn tx) len sp)), .int y4, .long hash])), (a1, .inl (G.2.1, 97, .inl (doD g2 (lC (nn tx) len sp) (oX (nn tx) len sp) (oY (nn tx) len sp)))), (a2, .inl (G.2.1, 97, .inl th)), (a3, .inl (G.2.1, 582, .inl pa)), (a4, .inl (G.2.1, 97, .inl sn)), (a5, .inl (G.2.1, 60, .inl tx))] H := hP
                            have hD : va_D A [(ob, .inr (6, [.ref a1, .ref a2, .ref a3, .int (nI n), .ref a4, .int kp, .ref a5, .int (nI len), .int thr, .int (nI ((nxF (nn tx) len sp) + 1)), .int (nI 0), .int (nI (lC (nn tx) len sp)), .int (nI (oX (nn tx) len sp)), .int (nI (oY (nn tx) len sp)), .int y4, .long hash])), (a1, .inl (G.2.1, 97, .inl (doD g2 (lC (nn tx) len sp) (oX (nn tx) len sp) (oY (nn tx) len sp)))), (a2, .inl (G.2.1, 97, .inl th)), (a3, .inl (G.2.1, 582, .inl pa)), (a4, .inl (G.2.1, 97, .inl sn)), (a5, .inl (G.2.1, 60, .inl tx))] := hD
                            refine lv_aload_n hx hb dX6_orders_150 rfl (lv_at hl 4 rfl) ?_
                            refine lv_iload hx hb dX6_orders_151 (lv_at hl 3 rfl) ?_
                            refine lv_if_eq (tgt := 175) hx hb dX6_orders_153 (by decide) (fun c153 => ?_) (fun c153 => ?_)
                            · skip
                              exact absurd c153 (by decide)
                            · skip
                              refine lv_iload_n hx hb dX6_orders_156 rfl (lv_at hl 0 rfl) ?_
                              refine lv_if_ne (tgt := 175) hx hb dX6_orders_157 (by decide) (fun c157 => ?_) (fun c157 => ?_)
                              · skip
                                refine lv_iconst (v := nI 0) hx hb dX6_orders_175 (by decide +kernel) ?_
                                refine va_put (D := G.1) (ci := 6) (v := .int (nI 0)) (ty := .boolean) (C := RX6) (T := TX6) (N := 16) hx hb hts w_0 tyX6 tyX6_ok nmX6 hown hE.1 hP hD hS 0 rfl rfl 14 (by decide) w_4 (fun _ h9 => h9) rfl (by decide +kernel) rfl (by decide +kernel) (Nat.le_of_ble_eq_true rfl) dX6_orders_176 (fun H locs hP hD hS => ?_)
                                have hP : va_P G.1 vwCl [(ob, .inr (6, [.ref a1, .ref a2, .ref a3, .int (nI n), .ref a4, .int kp, .ref a5, .int (nI len), .int thr, .int (nI ((nxF (nn tx) len sp) + 1)), .int (nI 0), .int (nI (lC (nn tx) len sp)), .int (nI (oX (nn tx) len sp)), .int (nI (oY (nn tx) len sp)), .int (nI 0), .long hash])), (a1, .inl (G.2.1, 97, .inl (doD g2 (lC (nn tx) len sp) (oX (nn tx) len sp) (oY (nn tx) len sp)))), (a2, .inl (G.2.1, 97, .inl th)), (a3, .inl (G.2.1, 582, .inl pa)), (a4, .inl (G.2.1, 97, .inl sn)), (a5, .inl (G.2.1, 60, .inl tx))] H := hP
                                have hD : va_D A [(ob, .inr (6, [.ref a1, .ref a2, .ref a3, .int (nI n), .ref a4, .int kp, .ref a5, .int (nI len), .int thr, .int (nI ((nxF (nn tx) len sp) + 1)), .int (nI 0), .int (nI (lC (nn tx) len sp)), .int (nI (oX (nn tx) len sp)), .int (nI (oY (nn tx) len sp)), .int (nI 0), .long hash])), (a1, .inl (G.2.1, 97, .inl (doD g2 (lC (nn tx) len sp) (oX (nn tx) len sp) (oY (nn tx) len sp)))), (a2, .inl (G.2.1, 97, .inl th)), (a3, .inl (G.2.1, 582, .inl pa)), (a4, .inl (G.2.1, 97, .inl sn)), (a5, .inl (G.2.1, 60, .inl tx))] := hD
                                refine lv_goto (tgt := 14) hx hb dX6_orders_179 (by decide) ?_
                                exact ih14 (k, (nxF (nn tx) len sp + 1), (ct + 1), (doD g2 (lC (nn tx) len sp) (oX (nn tx) len sp) (oY (nn tx) len sp)), _, _, _, _) _ _ _ ⟨by have := c87.1; omega, by have := hn3 c27; omega, by have := hn3 c27; omega, by rw [← i4, (x_m c50 c87).1], by rw [← i5, (x_m c50 c87).2]; omega, okf_mono (by omega) (okf_do (by omega) i6 od3 c50), by rw [← (p_m c27 c87).2.2.1]; exact i7⟩ ⟨hP, hD, hS⟩ (lv_sub hl [0, 2, 4, 5] rfl) (by (try dsimp only); omega)
                              · skip
                                exact absurd c157 (by decide)
                          · skip
                            exact absurd c128 (by decide)
              · skip
                exact absurd c67 (by decide)

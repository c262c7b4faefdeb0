set_option maxHeartbeats 4000000 in
set_option maxRecDepth 100000 in
theorem c_X6_isTwo (l : Launch) (G : eG) (v : Int32) : Met l yX6_isTwo wsX6_isTwo ({ frames := 1, cells := 0, slots := 0, locals := 22 }) (PC [.int v] G (fun H => va_P G.1 vwCl [] H)) (PQ (some (.int (b2 (nI 0 ≤ v ∧ v ≤ nI 1))))) 0 0 noA := by
  refine ofB (cc := cX6_isTwo) (maxL := 1) (ret := (some .boolean)) (by decide) rfl (Nat.le_of_ble_eq_true rfl) ?_
  intro p e s m below meth c hx hb hr hlocks hml hown hin hts hE hI ls hl
  replace hown : s.vm.findClass RX6 = some m.cls := hown
  have hl : lv_has ls 1 [(0, .int v)] := hl
  have hP : va_P G.1 vwCl [] s.heap := hI
  skip
  refine lv_iload_n hx hb dX6_isTwo_0 rfl (lv_at hl 0 rfl) ?_
  refine lv_iconst (v := nI 0) hx hb dX6_isTwo_1 (by decide +kernel) ?_
  refine lv_iconst (v := nI 1) hx hb dX6_isTwo_2 (by decide +kernel) ?_
  refine pcall (st1 := [.int (b2 ((nI 0) ≤ v ∧ v ≤ (nI 1)))]) (va_runS (As := [.int v, .int (nI 0), .int (nI 1)]) (rest := []) ⟨hx, hb, hml, hown, hts⟩ (c_X6_in l G v (nI 0) (nI 1)) (va_cwS 3 hts gX6_isTwo_X6_in rfl rfl rfl (by decide +kernel) ⟨Nat.le_of_ble_eq_true rfl, Nat.le_of_ble_eq_true rfl⟩) (PC.preS hE P_nil) rfl rfl hl.1 rfl (lv_room (Nat.le_of_ble_eq_true rfl)) dX6_isTwo_3 ⟨Nat.zero_le _, Nat.zero_le _⟩) rfl ?_
  refine tS (st' := [.int (b2 (nI 0 ≤ v ∧ v ≤ nI 1))]) (congrArg (fun z => [Value.int z]) ((by simp [b2]))) ?_
  exact W.zret hx hb hr (b2_z _) (fun t ht hW => ⟨rfl, ht⟩) (fun _ h => nomatch h) dX6_isTwo_6
set_option maxHeartbeats 4000000 in
set_option maxRecDepth 100000 in
theorem c_X6_thrown (l : Launch) (G : eG) (ob a1 a2 a3 a4 a5 : Nat) (f th pa sn tx : Nat → Int32) (n len spot : Nat) (kp thr bad lt one two wh : Int32) (hash : Int64) : Met l yX6_thrown wsX6_thrown ({ frames := 0, cells := 0, slots := 0, locals := 0 }) (PC [.ref ob] G (fun H => va_P G.1 vwCl [(ob, .inr (6, [.ref a1, .ref a2, .ref a3, .int (nI n), .ref a4, .int kp, .ref a5, .int (nI len), .int thr, .int (nI spot), .int bad, .int lt, .int one, .int two, .int wh, .long hash])), (a1, .inl (G.2.1, 97, .inl f)), (a2, .inl (G.2.1, 97, .inl th)), (a3, .inl (G.2.1, 582, .inl pa)), (a4, .inl (G.2.1, 97, .inl sn)), (a5, .inl (G.2.1, 60, .inl tx))] H)) (PQ (some (.int thr))) 0 0 noA := by
  refine ofB (cc := cX6_thrown) (maxL := 1) (ret := (some .int)) (by decide) rfl (Nat.le_of_ble_eq_true rfl) ?_
  intro p e s m below meth c hx hb hr hlocks hml hown hin hts hE hI ls hl
  replace hown : s.vm.findClass RX6 = some m.cls := hown
  have hl : lv_has ls 1 [(0, .ref ob)] := hl
  have hP : va_P G.1 vwCl [(ob, .inr (6, [.ref a1, .ref a2, .ref a3, .int (nI n), .ref a4, .int kp, .ref a5, .int (nI len), .int thr, .int (nI spot), .int bad, .int lt, .int one, .int two, .int wh, .long hash])), (a1, .inl (G.2.1, 97, .inl f)), (a2, .inl (G.2.1, 97, .inl th)), (a3, .inl (G.2.1, 582, .inl pa)), (a4, .inl (G.2.1, 97, .inl sn)), (a5, .inl (G.2.1, 60, .inl tx))] s.heap := hI
  have w_0 : ∀ w ∈ u_ws RX6 TX6 16, w ∈ wsX6_thrown := by decide +kernel
  have w_1 := hts (.fieldLink RX6 25 "CableFerryModel" "thrown" "I") (by decide +kernel)
  skip
  refine lv_aload_n hx hb dX6_thrown_0 rfl (lv_at hl 0 rfl) ?_
  refine va_get (D := G.1) (ci := 6) (v := .int thr) (C := RX6) (T := TX6) (N := 16) hx hb hts w_0 hown hE.1 hP 0 rfl rfl 8 (by decide) w_1 (fun _ h9 => h9) rfl dX6_thrown_1 ?_
  exact W.iret hx hb hr (fun t ht hW => ⟨rfl, ht⟩) (fun _ h => nomatch h) dX6_thrown_4
set_option maxHeartbeats 4000000 in
set_option maxRecDepth 100000 in
theorem c_X6_becomes (l : Launch) (G : eG) (ob a1 a2 a3 a4 a5 : Nat) (f th pa sn tx : Nat → Int32) (n len spot : Nat) (kp thr bad lt one two wh : Int32) (hash : Int64) (hn6 : n ≤ 6) (k : Nat) (v : Int32) (hk : k < 97) : Met l yX6_becomes wsX6_becomes ({ frames := 2, cells := 0, slots := 0, locals := 45 }) (PC [.ref ob, .int (nI k), .int v] G (fun H => va_P G.1 vwCl [(ob, .inr (6, [.ref a1, .ref a2, .ref a3, .int (nI n), .ref a4, .int kp, .ref a5, .int (nI len), .int thr, .int (nI spot), .int bad, .int lt, .int one, .int two, .int wh, .long hash])), (a1, .inl (G.2.1, 97, .inl f)), (a2, .inl (G.2.1, 97, .inl th)), (a3, .inl (G.2.1, 582, .inl pa)), (a4, .inl (G.2.1, 97, .inl sn)), (a5, .inl (G.2.1, 60, .inl tx))] H ∧ va_D (fun _ => True) [(ob, .inr (6, [.ref a1, .ref a2, .ref a3, .int (nI n), .ref a4, .int kp, .ref a5, .int (nI len), .int thr, .int (nI spot), .int bad, .int lt, .int one, .int two, .int wh, .long hash])), (a1, .inl (G.2.1, 97, .inl f)), (a2, .inl (G.2.1, 97, .inl th)), (a3, .inl (G.2.1, 582, .inl pa)), (a4, .inl (G.2.1, 97, .inl sn)), (a5, .inl (G.2.1, 60, .inl tx))])) (MV (some (.int (f k))) (fun H => va_P G.1 vwCl [(ob, .inr (6, [.ref a1, .ref a2, .ref a3, .int (nI (svM n)), .ref a4, .int kp, .ref a5, .int (nI len), .int thr, .int (nI spot), .int bad, .int lt, .int one, .int two, .int wh, .long hash])), (a1, .inl (G.2.1, 97, .inl (upd f k v))), (a2, .inl (G.2.1, 97, .inl th)), (a3, .inl (G.2.1, 582, .inl (svQ f n pa))), (a4, .inl (G.2.1, 97, .inl sn)), (a5, .inl (G.2.1, 60, .inl tx))] H ∧ va_D (inW [(ob, .inr (6, [.ref a1, .ref a2, .ref a3, .int (nI n), .ref a4, .int kp, .ref a5, .int (nI len), .int thr, .int (nI spot), .int bad, .int lt, .int one, .int two, .int wh, .long hash])), (a1, .inl (G.2.1, 97, .inl f)), (a2, .inl (G.2.1, 97, .inl th)), (a3, .inl (G.2.1, 582, .inl pa)), (a4, .inl (G.2.1, 97, .inl sn)), (a5, .inl (G.2.1, 60, .inl tx))]) [(ob, .inr (6, [.ref a1, .ref a2, .ref a3, .int (nI (svM n)), .ref a4, .int kp, .ref a5, .int (nI len), .int thr, .int (nI spot), .int bad, .int lt, .int one, .int two, .int wh, .long hash])), (a1, .inl (G.2.1, 97, .inl (upd f k v))), (a2, .inl (G.2.1, 97, .inl th)), (a3, .inl (G.2.1, 582, .inl (svQ f n pa))), (a4, .inl (G.2.1, 97, .inl sn)), (a5, .inl (G.2.1, 60, .inl tx))]) (inW [(ob, .inr (6, [.ref a1, .ref a2, .ref a3, .int (nI n), .ref a4, .int kp, .ref a5, .int (nI len), .int thr, .int (nI spot), .int bad, .int lt, .int one, .int two, .int wh, .long hash])), (a1, .inl (G.2.1, 97, .inl f)), (a2, .inl (G.2.1, 97, .inl th)), (a3, .inl (G.2.1, 582, .inl pa)), (a4, .inl (G.2.1, 97, .inl sn)), (a5, .inl (G.2.1, 60, .inl tx))])) 0 0 (inW [(ob, .inr (6, [.ref a1, .ref a2, .ref a3, .int (nI n), .ref a4, .int kp, .ref a5, .int (nI len), .int thr, .int (nI spot), .int bad, .int lt, .int one, .int two, .int wh, .long hash])), (a1, .inl (G.2.1, 97, .inl f)), (a2, .inl (G.2.1, 97, .inl th)), (a3, .inl (G.2.1, 582, .inl pa)), (a4, .inl (G.2.1, 97, .inl sn)), (a5, .inl (G.2.1, 60, .inl tx))]) := by
  refine ofB (cc := cX6_becomes) (maxL := 4) (ret := (some .int)) (by decide) rfl (Nat.le_of_ble_eq_true rfl) ?_
  intro p e s m below meth c hx hb hr hlocks hml hown hin hts hE hI ls hl
  replace hown : s.vm.findClass RX6 = some m.cls := hown
  have hl : lv_has ls 4 [(0, .ref ob), (1, .int (nI k)), (2, .int v)] := hl
  obtain ⟨hP, hD0⟩ := hI
  have hD : va_D (inW [(ob, .inr (6, [.ref a1, .ref a2, .ref a3, .int (nI n), .ref a4, .int kp, .ref a5, .int (nI len), .int thr, .int (nI spot), .int bad, .int lt, .int one, .int two, .int wh, .long hash])), (a1, .inl (G.2.1, 97, .inl f)), (a2, .inl (G.2.1, 97, .inl th)), (a3, .inl (G.2.1, 582, .inl pa)), (a4, .inl (G.2.1, 97, .inl sn)), (a5, .inl (G.2.1, 60, .inl tx))]) [(ob, .inr (6, [.ref a1, .ref a2, .ref a3, .int (nI n), .ref a4, .int kp, .ref a5, .int (nI len), .int thr, .int (nI spot), .int bad, .int lt, .int one, .int two, .int wh, .long hash])), (a1, .inl (G.2.1, 97, .inl f)), (a2, .inl (G.2.1, 97, .inl th)), (a3, .inl (G.2.1, 582, .inl pa)), (a4, .inl (G.2.1, 97, .inl sn)), (a5, .inl (G.2.1, 60, .inl tx))] := D_self hD0
  obtain ⟨A, hAe⟩ : ∃ A, A = inW [(ob, .inr (6, [.ref a1, .ref a2, .ref a3, .int (nI n), .ref a4, .int kp, .ref a5, .int (nI len), .int thr, .int (nI spot), .int bad, .int lt, .int one, .int two, .int wh, .long hash])), (a1, .inl (G.2.1, 97, .inl f)), (a2, .inl (G.2.1, 97, .inl th)), (a3, .inl (G.2.1, 582, .inl pa)), (a4, .inl (G.2.1, 97, .inl sn)), (a5, .inl (G.2.1, 60, .inl tx))] := ⟨_, rfl⟩
  rw [← hAe] at hD ⊢
  have hS : va_S A s.heap s.heap [] := va_S.rf
  obtain ⟨H, hHe⟩ : ∃ H, H = s.heap := ⟨_, rfl⟩
  obtain ⟨locs, hle⟩ : ∃ q : List Loc, q = [] := ⟨_, rfl⟩
  rw [← hle] at hS ⊢
  have hP : va_P G.1 vwCl [(ob, .inr (6, [.ref a1, .ref a2, .ref a3, .int (nI n), .ref a4, .int kp, .ref a5, .int (nI len), .int thr, .int (nI spot), .int bad, .int lt, .int one, .int two, .int wh, .long hash])), (a1, .inl (G.2.1, 97, .inl f)), (a2, .inl (G.2.1, 97, .inl th)), (a3, .inl (G.2.1, 582, .inl pa)), (a4, .inl (G.2.1, 97, .inl sn)), (a5, .inl (G.2.1, 60, .inl tx))] H := by rw [hHe]; exact hP
  replace hS : va_S A s.heap H locs := by rw [hHe]; exact hS
  refine tH hHe ?_
  have w_0 : ∀ w ∈ u_ws RX6 TX6 16, w ∈ wsX6_becomes := by decide +kernel
  have w_1 := hts (.fieldLink RX6 7 "CableFerryModel" "now" "[I") (by decide +kernel)
  skip
  refine lv_aload_n hx hb dX6_becomes_0 rfl (lv_at hl 0 rfl) ?_
  have hPc := hP.sub (ws' := [(ob, .inr (6, [.ref a1, .ref a2, .ref a3, .int (nI n), .ref a4, .int kp, .ref a5, .int (nI len), .int thr, .int (nI spot), .int bad, .int lt, .int one, .int two, .int wh, .long hash])), (a1, .inl (G.2.1, 97, .inl f)), (a2, .inl (G.2.1, 97, .inl th)), (a3, .inl (G.2.1, 582, .inl pa)), (a4, .inl (G.2.1, 97, .inl sn)), (a5, .inl (G.2.1, 60, .inl tx))]) [0, 1, 2, 3, 4, 5] rfl
  have hDc := hD.sub (ws' := [(ob, .inr (6, [.ref a1, .ref a2, .ref a3, .int (nI n), .ref a4, .int kp, .ref a5, .int (nI len), .int thr, .int (nI spot), .int bad, .int lt, .int one, .int two, .int wh, .long hash])), (a1, .inl (G.2.1, 97, .inl f)), (a2, .inl (G.2.1, 97, .inl th)), (a3, .inl (G.2.1, 582, .inl pa)), (a4, .inl (G.2.1, 97, .inl sn)), (a5, .inl (G.2.1, 60, .inl tx))]) [0, 1, 2, 3, 4, 5] (by decide) rfl
  refine mcall (st1 := []) (va_runV (As := []) (rest := []) ⟨hx, hb, hml, hown, hts⟩ (c_X6_saves l G ob a1 a2 a3 a4 a5 f th pa sn tx n len spot kp thr bad lt one two wh hash (by omega)) (cwV 0 hts gX6_becomes_X6_saves rfl rfl rfl (by decide +kernel) ⟨Nat.le_of_ble_eq_true rfl, Nat.le_of_ble_eq_true rfl⟩) (PC.preV hE (va_recv hE.1 hP (ci := 6) (q0 := 0) rfl rfl) ⟨hPc, hDc.weaken (fun _ _ _ _ => trivial)⟩) rfl rfl hl.1 rfl (lv_room (Nat.le_of_ble_eq_true rfl)) dX6_becomes_1 ⟨Nat.zero_le _, Nat.zero_le _⟩) hS (fun q _ h => inW_D hDc q h) (fun q h => inW_D hDc q h) rfl (fun H1 locs1 hB hz1 hk1 hS => ?_)
  obtain ⟨hP1, hD1⟩ := hB
  obtain ⟨hP, hD⟩ := jnW (wr := []) (w1 := [(ob, .inr (6, [.ref a1, .ref a2, .ref a3, .int (nI (svM n)), .ref a4, .int kp, .ref a5, .int (nI len), .int thr, .int (nI spot), .int bad, .int lt, .int one, .int two, .int wh, .long hash])), (a1, .inl (G.2.1, 97, .inl f)), (a2, .inl (G.2.1, 97, .inl th)), (a3, .inl (G.2.1, 582, .inl (svQ f n pa))), (a4, .inl (G.2.1, 97, .inl sn)), (a5, .inl (G.2.1, 60, .inl tx))]) hP hD [0, 1, 2, 3, 4, 5] [] rfl rfl (by decide) (by decide) hk1 hP1 hD1
  generalize H1 = H at hP hS ⊢
  have hP : va_P G.1 vwCl [(ob, .inr (6, [.ref a1, .ref a2, .ref a3, .int (nI (svM n)), .ref a4, .int kp, .ref a5, .int (nI len), .int thr, .int (nI spot), .int bad, .int lt, .int one, .int two, .int wh, .long hash])), (a1, .inl (G.2.1, 97, .inl f)), (a2, .inl (G.2.1, 97, .inl th)), (a3, .inl (G.2.1, 582, .inl (svQ f n pa))), (a4, .inl (G.2.1, 97, .inl sn)), (a5, .inl (G.2.1, 60, .inl tx))] H := hP
  have hD : va_D A [(ob, .inr (6, [.ref a1, .ref a2, .ref a3, .int (nI (svM n)), .ref a4, .int kp, .ref a5, .int (nI len), .int thr, .int (nI spot), .int bad, .int lt, .int one, .int two, .int wh, .long hash])), (a1, .inl (G.2.1, 97, .inl f)), (a2, .inl (G.2.1, 97, .inl th)), (a3, .inl (G.2.1, 582, .inl (svQ f n pa))), (a4, .inl (G.2.1, 97, .inl sn)), (a5, .inl (G.2.1, 60, .inl tx))] := hD
  refine lv_aload_n hx hb dX6_becomes_4 rfl (lv_at hl 0 rfl) ?_
  refine va_get (D := G.1) (ci := 6) (v := .ref a1) (C := RX6) (T := TX6) (N := 16) hx hb hts w_0 hown hE.1 hP 0 rfl rfl 0 (by decide) w_1 (fun _ h9 => h9) rfl dX6_becomes_5 ?_
  refine lv_iload_n hx hb dX6_becomes_8 rfl (lv_at hl 1 rfl) ?_
  refine ialdN (k := k) hx hb hE.1 hP 1 0 rfl rfl (by omega) (by decide) dX6_becomes_9 ?_
  refine lv_istore_n (lv' := [(3, .int (f k)), (0, .ref ob), (1, .int (nI k)), (2, .int v)]) hx hb dX6_becomes_10 rfl hl (by decide) rfl (fun ls hl => ?_)
  refine lv_aload_n hx hb dX6_becomes_11 rfl (lv_at hl 1 rfl) ?_
  refine va_get (D := G.1) (ci := 6) (v := .ref a1) (C := RX6) (T := TX6) (N := 16) hx hb hts w_0 hown hE.1 hP 0 rfl rfl 0 (by decide) w_1 (fun _ h9 => h9) rfl dX6_becomes_12 ?_
  refine lv_iload_n hx hb dX6_becomes_15 rfl (lv_at hl 2 rfl) ?_
  refine lv_iload_n hx hb dX6_becomes_16 rfl (lv_at hl 3 rfl) ?_
  refine iastN (k := k) hx hb hE.1 hP hD hS 1 0 rfl rfl (by omega) (by decide) dX6_becomes_17 (fun H locs hP hD hS => ?_)
  have hP : va_P G.1 vwCl [(ob, .inr (6, [.ref a1, .ref a2, .ref a3, .int (nI (svM n)), .ref a4, .int kp, .ref a5, .int (nI len), .int thr, .int (nI spot), .int bad, .int lt, .int one, .int two, .int wh, .long hash])), (a1, .inl (G.2.1, 97, .inl (upd f k v))), (a2, .inl (G.2.1, 97, .inl th)), (a3, .inl (G.2.1, 582, .inl (svQ f n pa))), (a4, .inl (G.2.1, 97, .inl sn)), (a5, .inl (G.2.1, 60, .inl tx))] H := hP
  have hD : va_D A [(ob, .inr (6, [.ref a1, .ref a2, .ref a3, .int (nI (svM n)), .ref a4, .int kp, .ref a5, .int (nI len), .int thr, .int (nI spot), .int bad, .int lt, .int one, .int two, .int wh, .long hash])), (a1, .inl (G.2.1, 97, .inl (upd f k v))), (a2, .inl (G.2.1, 97, .inl th)), (a3, .inl (G.2.1, 582, .inl (svQ f n pa))), (a4, .inl (G.2.1, 97, .inl sn)), (a5, .inl (G.2.1, 60, .inl tx))] := hD
  refine lv_iload_n hx hb dX6_becomes_18 rfl (lv_at hl 0 rfl) ?_
  exact W.iret hx hb hr (fun t ht hW => ⟨rfl, by rw [ht]; exact ⟨hP, hD⟩, hS.F ht⟩) hS.2.2 dX6_becomes_19
set_option maxHeartbeats 4000000 in
set_option maxRecDepth 100000 in
theorem c_X6_arrives (l : Launch) (G : eG) (ob a1 a2 a3 a4 a5 : Nat) (f th pa sn tx : Nat → Int32) (n len spot : Nat) (kp thr bad lt one two wh : Int32) (hash : Int64) (hs : Shp f) (b : Nat) (hb2 : b < 2) (hq : nn f (57 + 11 * b) < 10) (v : Int32) : Met l yX6_arrives wsX6_arrives ({ frames := 0, cells := 0, slots := 0, locals := 0 }) (PC [.ref ob, .int (nI b), .int v] G (fun H => va_P G.1 vwCl [(ob, .inr (6, [.ref a1, .ref a2, .ref a3, .int (nI n), .ref a4, .int kp, .ref a5, .int (nI len), .int thr, .int (nI spot), .int bad, .int lt, .int one, .int two, .int wh, .long hash])), (a1, .inl (G.2.1, 97, .inl f)), (a2, .inl (G.2.1, 97, .inl th)), (a3, .inl (G.2.1, 582, .inl pa)), (a4, .inl (G.2.1, 97, .inl sn)), (a5, .inl (G.2.1, 60, .inl tx))] H ∧ va_D (fun _ => True) [(ob, .inr (6, [.ref a1, .ref a2, .ref a3, .int (nI n), .ref a4, .int kp, .ref a5, .int (nI len), .int thr, .int (nI spot), .int bad, .int lt, .int one, .int two, .int wh, .long hash])), (a1, .inl (G.2.1, 97, .inl f)), (a2, .inl (G.2.1, 97, .inl th)), (a3, .inl (G.2.1, 582, .inl pa)), (a4, .inl (G.2.1, 97, .inl sn)), (a5, .inl (G.2.1, 60, .inl tx))])) (MV (some (.int (f (57 + (11 * b)) + nI 1))) (fun H => va_P G.1 vwCl [(ob, .inr (6, [.ref a1, .ref a2, .ref a3, .int (nI n), .ref a4, .int kp, .ref a5, .int (nI len), .int thr, .int (nI spot), .int bad, .int lt, .int one, .int two, .int wh, .long hash])), (a1, .inl (G.2.1, 97, .inl (fArr f b v))), (a2, .inl (G.2.1, 97, .inl th)), (a3, .inl (G.2.1, 582, .inl pa)), (a4, .inl (G.2.1, 97, .inl sn)), (a5, .inl (G.2.1, 60, .inl tx))] H ∧ va_D (inW [(ob, .inr (6, [.ref a1, .ref a2, .ref a3, .int (nI n), .ref a4, .int kp, .ref a5, .int (nI len), .int thr, .int (nI spot), .int bad, .int lt, .int one, .int two, .int wh, .long hash])), (a1, .inl (G.2.1, 97, .inl f)), (a2, .inl (G.2.1, 97, .inl th)), (a3, .inl (G.2.1, 582, .inl pa)), (a4, .inl (G.2.1, 97, .inl sn)), (a5, .inl (G.2.1, 60, .inl tx))]) [(ob, .inr (6, [.ref a1, .ref a2, .ref a3, .int (nI n), .ref a4, .int kp, .ref a5, .int (nI len), .int thr, .int (nI spot), .int bad, .int lt, .int one, .int two, .int wh, .long hash])), (a1, .inl (G.2.1, 97, .inl (fArr f b v))), (a2, .inl (G.2.1, 97, .inl th)), (a3, .inl (G.2.1, 582, .inl pa)), (a4, .inl (G.2.1, 97, .inl sn)), (a5, .inl (G.2.1, 60, .inl tx))]) (inW [(ob, .inr (6, [.ref a1, .ref a2, .ref a3, .int (nI n), .ref a4, .int kp, .ref a5, .int (nI len), .int thr, .int (nI spot), .int bad, .int lt, .int one, .int two, .int wh, .long hash])), (a1, .inl (G.2.1, 97, .inl f)), (a2, .inl (G.2.1, 97, .inl th)), (a3, .inl (G.2.1, 582, .inl pa)), (a4, .inl (G.2.1, 97, .inl sn)), (a5, .inl (G.2.1, 60, .inl tx))])) 0 0 (inW [(ob, .inr (6, [.ref a1, .ref a2, .ref a3, .int (nI n), .ref a4, .int kp, .ref a5, .int (nI len), .int thr, .int (nI spot), .int bad, .int lt, .int one, .int two, .int wh, .long hash])), (a1, .inl (G.2.1, 97, .inl f)), (a2, .inl (G.2.1, 97, .inl th)), (a3, .inl (G.2.1, 582, .inl pa)), (a4, .inl (G.2.1, 97, .inl sn)), (a5, .inl (G.2.1, 60, .inl tx))]) := by
  refine ofB (cc := cX6_arrives) (maxL := 4) (ret := (some .int)) (by decide) rfl (Nat.le_of_ble_eq_true rfl) ?_
  intro p e s m below meth c hx hb hr hlocks hml hown hin hts hE hI ls hl
  replace hown : s.vm.findClass RX6 = some m.cls := hown
  have hl : lv_has ls 4 [(0, .ref ob), (1, .int (nI b)), (2, .int v)] := hl
  obtain ⟨hP, hD0⟩ := hI
  have hD : va_D (inW [(ob, .inr (6, [.ref a1, .ref a2, .ref a3, .int (nI n), .ref a4, .int kp, .ref a5, .int (nI len), .int thr, .int (nI spot), .int bad, .int lt, .int one, .int two, .int wh, .long hash])), (a1, .inl (G.2.1, 97, .inl f)), (a2, .inl (G.2.1, 97, .inl th)), (a3, .inl (G.2.1, 582, .inl pa)), (a4, .inl (G.2.1, 97, .inl sn)), (a5, .inl (G.2.1, 60, .inl tx))]) [(ob, .inr (6, [.ref a1, .ref a2, .ref a3, .int (nI n), .ref a4, .int kp, .ref a5, .int (nI len), .int thr, .int (nI spot), .int bad, .int lt, .int one, .int two, .int wh, .long hash])), (a1, .inl (G.2.1, 97, .inl f)), (a2, .inl (G.2.1, 97, .inl th)), (a3, .inl (G.2.1, 582, .inl pa)), (a4, .inl (G.2.1, 97, .inl sn)), (a5, .inl (G.2.1, 60, .inl tx))] := D_self hD0
  obtain ⟨A, hAe⟩ : ∃ A, A = inW [(ob, .inr (6, [.ref a1, .ref a2, .ref a3, .int (nI n), .ref a4, .int kp, .ref a5, .int (nI len), .int thr, .int (nI spot), .int bad, .int lt, .int one, .int two, .int wh, .long hash])), (a1, .inl (G.2.1, 97, .inl f)), (a2, .inl (G.2.1, 97, .inl th)), (a3, .inl (G.2.1, 582, .inl pa)), (a4, .inl (G.2.1, 97, .inl sn)), (a5, .inl (G.2.1, 60, .inl tx))] := ⟨_, rfl⟩
  rw [← hAe] at hD ⊢
  have hS : va_S A s.heap s.heap [] := va_S.rf
  obtain ⟨H, hHe⟩ : ∃ H, H = s.heap := ⟨_, rfl⟩
  obtain ⟨locs, hle⟩ : ∃ q : List Loc, q = [] := ⟨_, rfl⟩
  rw [← hle] at hS ⊢
  have hP : va_P G.1 vwCl [(ob, .inr (6, [.ref a1, .ref a2, .ref a3, .int (nI n), .ref a4, .int kp, .ref a5, .int (nI len), .int thr, .int (nI spot), .int bad, .int lt, .int one, .int two, .int wh, .long hash])), (a1, .inl (G.2.1, 97, .inl f)), (a2, .inl (G.2.1, 97, .inl th)), (a3, .inl (G.2.1, 582, .inl pa)), (a4, .inl (G.2.1, 97, .inl sn)), (a5, .inl (G.2.1, 60, .inl tx))] H := by rw [hHe]; exact hP
  replace hS : va_S A s.heap H locs := by rw [hHe]; exact hS
  refine tH hHe ?_
  have w_0 : ∀ w ∈ u_ws RX6 TX6 16, w ∈ wsX6_arrives := by decide +kernel
  have w_1 := hts (.fieldLink RX6 7 "CableFerryModel" "now" "[I") (by decide +kernel)
  obtain ⟨hq1, hq2⟩ := hs.2.1 b hb2
  refine lv_bipush (v := nI 57) hx hb dX6_arrives_0 (by decide +kernel) ?_
  refine lv_bipush (v := nI 11) hx hb dX6_arrives_2 (by decide +kernel) ?_
  refine lv_iload_n hx hb dX6_arrives_4 rfl (lv_at hl 1 rfl) ?_
  refine imulN hx hb dX6_arrives_5 ?_
  refine iaddN hx hb dX6_arrives_6 ?_
  refine lv_istore_n (lv' := [(3, .int (nI (57 + (11 * b)))), (0, .ref ob), (1, .int (nI b)), (2, .int v)]) hx hb dX6_arrives_7 rfl hl (by decide) rfl (fun ls hl => ?_)
  refine lv_aload_n hx hb dX6_arrives_8 rfl (lv_at hl 1 rfl) ?_
  refine va_get (D := G.1) (ci := 6) (v := .ref a1) (C := RX6) (T := TX6) (N := 16) hx hb hts w_0 hown hE.1 hP 0 rfl rfl 0 (by decide) w_1 (fun _ h9 => h9) rfl dX6_arrives_9 ?_
  refine lv_iload_n hx hb dX6_arrives_12 rfl (lv_at hl 0 rfl) ?_
  refine lv_iconst (v := nI 1) hx hb dX6_arrives_13 (by decide +kernel) ?_
  refine iaddN hx hb dX6_arrives_14 ?_
  refine lv_aload_n hx hb dX6_arrives_15 rfl (lv_at hl 1 rfl) ?_
  refine va_get (D := G.1) (ci := 6) (v := .ref a1) (C := RX6) (T := TX6) (N := 16) hx hb hts w_0 hown hE.1 hP 0 rfl rfl 0 (by decide) w_1 (fun _ h9 => h9) rfl dX6_arrives_16 ?_
  refine lv_iload_n hx hb dX6_arrives_19 rfl (lv_at hl 0 rfl) ?_
  refine ialdN (k := (57 + (11 * b))) hx hb hE.1 hP 1 0 rfl rfl (by omega) (by decide) dX6_arrives_20 ?_
  refine tI (y := nI (nn f (57 + (11 * b)))) (hq1) ?_
  refine iaddN hx hb dX6_arrives_21 ?_
  refine lv_iload_n hx hb dX6_arrives_22 rfl (lv_at hl 3 rfl) ?_
  refine iastN (k := (((57 + (11 * b)) + 1) + (nn f (57 + (11 * b))))) hx hb hE.1 hP hD hS 1 0 rfl rfl (by omega) (by decide) dX6_arrives_23 (fun H locs hP hD hS => ?_)
  have hP : va_P G.1 vwCl [(ob, .inr (6, [.ref a1, .ref a2, .ref a3, .int (nI n), .ref a4, .int kp, .ref a5, .int (nI len), .int thr, .int (nI spot), .int bad, .int lt, .int one, .int two, .int wh, .long hash])), (a1, .inl (G.2.1, 97, .inl (upd f (((57 + (11 * b)) + 1) + (nn f (57 + (11 * b)))) v))), (a2, .inl (G.2.1, 97, .inl th)), (a3, .inl (G.2.1, 582, .inl pa)), (a4, .inl (G.2.1, 97, .inl sn)), (a5, .inl (G.2.1, 60, .inl tx))] H := hP
  have hD : va_D A [(ob, .inr (6, [.ref a1, .ref a2, .ref a3, .int (nI n), .ref a4, .int kp, .ref a5, .int (nI len), .int thr, .int (nI spot), .int bad, .int lt, .int one, .int two, .int wh, .long hash])), (a1, .inl (G.2.1, 97, .inl (upd f (((57 + (11 * b)) + 1) + (nn f (57 + (11 * b)))) v))), (a2, .inl (G.2.1, 97, .inl th)), (a3, .inl (G.2.1, 582, .inl pa)), (a4, .inl (G.2.1, 97, .inl sn)), (a5, .inl (G.2.1, 60, .inl tx))] := hD
  refine lv_aload_n hx hb dX6_arrives_24 rfl (lv_at hl 1 rfl) ?_
  refine va_get (D := G.1) (ci := 6) (v := .ref a1) (C := RX6) (T := TX6) (N := 16) hx hb hts w_0 hown hE.1 hP 0 rfl rfl 0 (by decide) w_1 (fun _ h9 => h9) rfl dX6_arrives_25 ?_
  refine lv_iload_n hx hb dX6_arrives_28 rfl (lv_at hl 0 rfl) ?_
  refine lv_dup2_11 hx hb dX6_arrives_29 rfl rfl ?_
  refine ialdN (k := (57 + (11 * b))) hx hb hE.1 hP 1 0 rfl rfl (by omega) (by decide) dX6_arrives_30 ?_
  refine tI (y := f (57 + (11 * b))) ((pk_un (by omega))) ?_
  refine lv_iconst (v := nI 1) hx hb dX6_arrives_31 (by decide +kernel) ?_
  refine lv_iadd hx hb dX6_arrives_32 ?_
  refine iastN (k := (57 + (11 * b))) hx hb hE.1 hP hD hS 1 0 rfl rfl (by omega) (by decide) dX6_arrives_33 (fun H locs hP hD hS => ?_)
  have hP : va_P G.1 vwCl [(ob, .inr (6, [.ref a1, .ref a2, .ref a3, .int (nI n), .ref a4, .int kp, .ref a5, .int (nI len), .int thr, .int (nI spot), .int bad, .int lt, .int one, .int two, .int wh, .long hash])), (a1, .inl (G.2.1, 97, .inl (upd (upd f (((57 + (11 * b)) + 1) + (nn f (57 + (11 * b)))) v) (57 + (11 * b)) ((f (57 + (11 * b))) + (nI 1))))), (a2, .inl (G.2.1, 97, .inl th)), (a3, .inl (G.2.1, 582, .inl pa)), (a4, .inl (G.2.1, 97, .inl sn)), (a5, .inl (G.2.1, 60, .inl tx))] H := hP
  have hD : va_D A [(ob, .inr (6, [.ref a1, .ref a2, .ref a3, .int (nI n), .ref a4, .int kp, .ref a5, .int (nI len), .int thr, .int (nI spot), .int bad, .int lt, .int one, .int two, .int wh, .long hash])), (a1, .inl (G.2.1, 97, .inl (upd (upd f (((57 + (11 * b)) + 1) + (nn f (57 + (11 * b)))) v) (57 + (11 * b)) ((f (57 + (11 * b))) + (nI 1))))), (a2, .inl (G.2.1, 97, .inl th)), (a3, .inl (G.2.1, 582, .inl pa)), (a4, .inl (G.2.1, 97, .inl sn)), (a5, .inl (G.2.1, 60, .inl tx))] := hD
  refine lv_aload_n hx hb dX6_arrives_34 rfl (lv_at hl 1 rfl) ?_
  refine va_get (D := G.1) (ci := 6) (v := .ref a1) (C := RX6) (T := TX6) (N := 16) hx hb hts w_0 hown hE.1 hP 0 rfl rfl 0 (by decide) w_1 (fun _ h9 => h9) rfl dX6_arrives_35 ?_
  refine lv_bipush (v := nI 53) hx hb dX6_arrives_38 (by decide +kernel) ?_
  refine lv_dup2_11 hx hb dX6_arrives_40 rfl rfl ?_
  refine ialdN (k := 53) hx hb hE.1 hP 1 0 rfl rfl (by omega) (by decide) dX6_arrives_41 ?_
  refine tI (y := f 53) (((pk_un (by omega))).trans ((pk_un (by omega)))) ?_
  refine lv_iconst (v := nI 1) hx hb dX6_arrives_42 (by decide +kernel) ?_
  refine lv_iadd hx hb dX6_arrives_43 ?_
  refine iastN (k := 53) hx hb hE.1 hP hD hS 1 0 rfl rfl (by omega) (by decide) dX6_arrives_44 (fun H locs hP hD hS => ?_)
  have hP : va_P G.1 vwCl [(ob, .inr (6, [.ref a1, .ref a2, .ref a3, .int (nI n), .ref a4, .int kp, .ref a5, .int (nI len), .int thr, .int (nI spot), .int bad, .int lt, .int one, .int two, .int wh, .long hash])), (a1, .inl (G.2.1, 97, .inl (upd (upd (upd f (((57 + (11 * b)) + 1) + (nn f (57 + (11 * b)))) v) (57 + (11 * b)) ((f (57 + (11 * b))) + (nI 1))) 53 ((f 53) + (nI 1))))), (a2, .inl (G.2.1, 97, .inl th)), (a3, .inl (G.2.1, 582, .inl pa)), (a4, .inl (G.2.1, 97, .inl sn)), (a5, .inl (G.2.1, 60, .inl tx))] H := hP
  have hD : va_D A [(ob, .inr (6, [.ref a1, .ref a2, .ref a3, .int (nI n), .ref a4, .int kp, .ref a5, .int (nI len), .int thr, .int (nI spot), .int bad, .int lt, .int one, .int two, .int wh, .long hash])), (a1, .inl (G.2.1, 97, .inl (upd (upd (upd f (((57 + (11 * b)) + 1) + (nn f (57 + (11 * b)))) v) (57 + (11 * b)) ((f (57 + (11 * b))) + (nI 1))) 53 ((f 53) + (nI 1))))), (a2, .inl (G.2.1, 97, .inl th)), (a3, .inl (G.2.1, 582, .inl pa)), (a4, .inl (G.2.1, 97, .inl sn)), (a5, .inl (G.2.1, 60, .inl tx))] := hD
  refine lv_aload_n hx hb dX6_arrives_45 rfl (lv_at hl 1 rfl) ?_
  refine va_get (D := G.1) (ci := 6) (v := .ref a1) (C := RX6) (T := TX6) (N := 16) hx hb hts w_0 hown hE.1 hP 0 rfl rfl 0 (by decide) w_1 (fun _ h9 => h9) rfl dX6_arrives_46 ?_
  refine lv_iload_n hx hb dX6_arrives_49 rfl (lv_at hl 0 rfl) ?_
  refine ialdN (k := (57 + (11 * b))) hx hb hE.1 hP 1 0 rfl rfl (by omega) (by decide) dX6_arrives_50 ?_
  refine tI (y := (f (57 + (11 * b))) + (nI 1)) (((pk_un (by omega))).trans (pk_us)) ?_
  refine tS (st' := [.int (f (57 + (11 * b)) + nI 1)]) (congrArg (fun z => [Value.int z]) ((by simp [b2]))) ?_
  exact W.iret hx hb hr (fun t ht hW => ⟨rfl, by rw [ht]; exact ⟨hP, hD⟩, hS.F ht⟩) hS.2.2 dX6_arrives_51
set_option maxHeartbeats 4000000 in
set_option maxRecDepth 100000 in
theorem c_X6_canLoad (l : Launch) (G : eG) (ob a1 a2 a3 a4 a5 : Nat) (f th pa sn tx : Nat → Int32) (n len spot : Nat) (kp thr bad lt one two wh : Int32) (hash : Int64) (hs : Shp f) (q : Nat) (hq : q < 2) : Met l yX6_canLoad wsX6_canLoad ({ frames := 1, cells := 0, slots := 0, locals := 21 }) (PC [.ref ob, .int (nI q)] G (fun H => va_P G.1 vwCl [(ob, .inr (6, [.ref a1, .ref a2, .ref a3, .int (nI n), .ref a4, .int kp, .ref a5, .int (nI len), .int thr, .int (nI spot), .int bad, .int lt, .int one, .int two, .int wh, .long hash])), (a1, .inl (G.2.1, 97, .inl f)), (a2, .inl (G.2.1, 97, .inl th)), (a3, .inl (G.2.1, 582, .inl pa)), (a4, .inl (G.2.1, 97, .inl sn)), (a5, .inl (G.2.1, 60, .inl tx))] H)) (PQ (some (.int (b2 (fCan f q = true))))) 0 0 noA := by
  refine ofB (cc := cX6_canLoad) (maxL := 2) (ret := (some .boolean)) (by decide) rfl (Nat.le_of_ble_eq_true rfl) ?_
  intro p e s m below meth c hx hb hr hlocks hml hown hin hts hE hI ls hl
  replace hown : s.vm.findClass RX6 = some m.cls := hown
  have hl : lv_has ls 2 [(0, .ref ob), (1, .int (nI q))] := hl
  have hP : va_P G.1 vwCl [(ob, .inr (6, [.ref a1, .ref a2, .ref a3, .int (nI n), .ref a4, .int kp, .ref a5, .int (nI len), .int thr, .int (nI spot), .int bad, .int lt, .int one, .int two, .int wh, .long hash])), (a1, .inl (G.2.1, 97, .inl f)), (a2, .inl (G.2.1, 97, .inl th)), (a3, .inl (G.2.1, 582, .inl pa)), (a4, .inl (G.2.1, 97, .inl sn)), (a5, .inl (G.2.1, 60, .inl tx))] s.heap := hI
  have w_0 : ∀ w ∈ u_ws RX6 TX6 16, w ∈ wsX6_canLoad := by decide +kernel
  have w_1 := hts (.fieldLink RX6 7 "CableFerryModel" "now" "[I") (by decide +kernel)
  obtain ⟨h51, h51b⟩ := hs.2.2.1
  obtain ⟨hw, hwb⟩ := hs.2.1 _ h51b
  obtain ⟨hn, hnb⟩ := hs.1 _ hq
  refine lv_aload_n hx hb dX6_canLoad_0 rfl (lv_at hl 0 rfl) ?_
  refine va_get (D := G.1) (ci := 6) (v := .ref a1) (C := RX6) (T := TX6) (N := 16) hx hb hts w_0 hown hE.1 hP 0 rfl rfl 0 (by decide) w_1 (fun _ h9 => h9) rfl dX6_canLoad_1 ?_
  refine lv_aload_n hx hb dX6_canLoad_4 rfl (lv_at hl 0 rfl) ?_
  refine va_get (D := G.1) (ci := 6) (v := .ref a1) (C := RX6) (T := TX6) (N := 16) hx hb hts w_0 hown hE.1 hP 0 rfl rfl 0 (by decide) w_1 (fun _ h9 => h9) rfl dX6_canLoad_5 ?_
  refine lv_bipush (v := nI 51) hx hb dX6_canLoad_8 (by decide +kernel) ?_
  refine ialdN (k := 51) hx hb hE.1 hP 1 0 rfl rfl (by omega) (by decide) dX6_canLoad_10 ?_
  refine tI (y := nI (nn f 51)) h51 ?_
  refine pcall (st1 := [.int (f (57 + (11 * (nn f 51))))]) (va_runS (As := [.ref a1, .int (nI (nn f 51))]) (rest := []) ⟨hx, hb, hml, hown, hts⟩ (c_X6_waitingAt l G a1 f (nn f 51) (by omega)) (va_cwS 2 hts gX6_canLoad_X6_waitingAt rfl rfl rfl (by decide +kernel) ⟨Nat.le_of_ble_eq_true rfl, Nat.le_of_ble_eq_true rfl⟩) (PC.preS hE (hP.sub [1] rfl)) rfl rfl hl.1 rfl (lv_room (Nat.le_of_ble_eq_true rfl)) dX6_canLoad_11 ⟨Nat.zero_le _, Nat.zero_le _⟩) rfl ?_
  refine tI (y := nI (nn f (57 + (11 * nn f 51)))) (hw) ?_
  refine cutL (σ := Int32) (n := 2) (pc1 := 34) (fun r => r = b2 (fCan f q = true)) (fun r => [(0, .ref ob), (1, .int (nI q))]) (fun r => [.int r]) ?_ (fun J34 => ?_)
  · rintro r ls hI hl
    replace hI : r = b2 (fCan f q = true) := hI
    subst hI
    have hl : lv_has ls 2 [(0, .ref ob), (1, .int (nI q))] := hl
    refine tS (st' := [.int (b2 (fCan f q = true))]) rfl ?_
    exact W.zret hx hb hr (b2_z _) (fun t ht hW => ⟨rfl, ht⟩) (fun _ h => nomatch h) dX6_canLoad_34
  · skip
    refine if_leN (tgt := 33) hx hb (by omega) dX6_canLoad_14 (by decide) (fun c14 => ?_) (fun c14 => ?_)
    · skip
      refine lv_iconst (v := nI 0) hx hb dX6_canLoad_33 (by decide +kernel) ?_
      exact J34 (nI 0) _ (by simp only [b2, fCan, decide_eq_true_eq]; (repeat' split) <;> first | rfl | omega) (lv_sub hl [0, 1] rfl)
    · skip
      refine lv_aload_n hx hb dX6_canLoad_17 rfl (lv_at hl 0 rfl) ?_
      refine va_get (D := G.1) (ci := 6) (v := .ref a1) (C := RX6) (T := TX6) (N := 16) hx hb hts w_0 hown hE.1 hP 0 rfl rfl 0 (by decide) w_1 (fun _ h9 => h9) rfl dX6_canLoad_18 ?_
      refine lv_iload_n hx hb dX6_canLoad_21 rfl (lv_at hl 1 rfl) ?_
      refine pcall (st1 := [.int (f (79 + (9 * q)))]) (va_runS (As := [.ref a1, .int (nI q)]) (rest := []) ⟨hx, hb, hml, hown, hts⟩ (c_X6_onLane l G a1 f q (by omega)) (va_cwS 2 hts gX6_canLoad_X6_onLane rfl rfl rfl (by decide +kernel) ⟨Nat.le_of_ble_eq_true rfl, Nat.le_of_ble_eq_true rfl⟩) (PC.preS hE (hP.sub [1] rfl)) rfl rfl hl.1 rfl (lv_room (Nat.le_of_ble_eq_true rfl)) dX6_canLoad_22 ⟨Nat.zero_le _, Nat.zero_le _⟩) rfl ?_
      refine tI (y := nI (nn f (79 + (9 * q)))) (hn) ?_
      refine lv_iconst (v := nI 4) hx hb dX6_canLoad_25 (by decide +kernel) ?_
      refine icmp_geN (tgt := 33) hx hb (by omega) (by omega) dX6_canLoad_26 (by decide) (fun c26 => ?_) (fun c26 => ?_)
      · skip
        refine lv_iconst (v := nI 0) hx hb dX6_canLoad_33 (by decide +kernel) ?_
        exact J34 (nI 0) _ (by simp only [b2, fCan, decide_eq_true_eq]; (repeat' split) <;> first | rfl | omega) (lv_sub hl [0, 1] rfl)
      · skip
        refine lv_iconst (v := nI 1) hx hb dX6_canLoad_29 (by decide +kernel) ?_
        refine lv_goto (tgt := 34) hx hb dX6_canLoad_30 (by decide) ?_
        exact J34 (nI 1) _ (by simp only [b2, fCan, decide_eq_true_eq]; (repeat' split) <;> first | rfl | omega) (lv_sub hl [0, 1] rfl)
set_option maxHeartbeats 4000000 in
set_option maxRecDepth 100000 in
theorem c_X6_loads (l : Launch) (G : eG) (ob a1 a2 a3 a4 a5 : Nat) (f th pa sn tx : Nat → Int32) (n len spot : Nat) (kp thr bad lt one two wh : Int32) (hash : Int64) (hs : Shp f) (q : Nat) (hq : q < 2) (hn4 : nn f (79 + 9 * q) < 4) : Met l yX6_loads wsX6_loads ({ frames := 0, cells := 0, slots := 0, locals := 0 }) (PC [.ref ob, .int (nI q)] G (fun H => va_P G.1 vwCl [(ob, .inr (6, [.ref a1, .ref a2, .ref a3, .int (nI n), .ref a4, .int kp, .ref a5, .int (nI len), .int thr, .int (nI spot), .int bad, .int lt, .int one, .int two, .int wh, .long hash])), (a1, .inl (G.2.1, 97, .inl f)), (a2, .inl (G.2.1, 97, .inl th)), (a3, .inl (G.2.1, 582, .inl pa)), (a4, .inl (G.2.1, 97, .inl sn)), (a5, .inl (G.2.1, 60, .inl tx))] H ∧ va_D (fun _ => True) [(ob, .inr (6, [.ref a1, .ref a2, .ref a3, .int (nI n), .ref a4, .int kp, .ref a5, .int (nI len), .int thr, .int (nI spot), .int bad, .int lt, .int one, .int two, .int wh, .long hash])), (a1, .inl (G.2.1, 97, .inl f)), (a2, .inl (G.2.1, 97, .inl th)), (a3, .inl (G.2.1, 582, .inl pa)), (a4, .inl (G.2.1, 97, .inl sn)), (a5, .inl (G.2.1, 60, .inl tx))])) (MV (some (.int (f (fAt f + 1)))) (fun H => va_P G.1 vwCl [(ob, .inr (6, [.ref a1, .ref a2, .ref a3, .int (nI n), .ref a4, .int kp, .ref a5, .int (nI len), .int thr, .int (nI spot), .int bad, .int lt, .int one, .int two, .int wh, .long hash])), (a1, .inl (G.2.1, 97, .inl (fLod f q))), (a2, .inl (G.2.1, 97, .inl th)), (a3, .inl (G.2.1, 582, .inl pa)), (a4, .inl (G.2.1, 97, .inl sn)), (a5, .inl (G.2.1, 60, .inl tx))] H ∧ va_D (inW [(ob, .inr (6, [.ref a1, .ref a2, .ref a3, .int (nI n), .ref a4, .int kp, .ref a5, .int (nI len), .int thr, .int (nI spot), .int bad, .int lt, .int one, .int two, .int wh, .long hash])), (a1, .inl (G.2.1, 97, .inl f)), (a2, .inl (G.2.1, 97, .inl th)), (a3, .inl (G.2.1, 582, .inl pa)), (a4, .inl (G.2.1, 97, .inl sn)), (a5, .inl (G.2.1, 60, .inl tx))]) [(ob, .inr (6, [.ref a1, .ref a2, .ref a3, .int (nI n), .ref a4, .int kp, .ref a5, .int (nI len), .int thr, .int (nI spot), .int bad, .int lt, .int one, .int two, .int wh, .long hash])), (a1, .inl (G.2.1, 97, .inl (fLod f q))), (a2, .inl (G.2.1, 97, .inl th)), (a3, .inl (G.2.1, 582, .inl pa)), (a4, .inl (G.2.1, 97, .inl sn)), (a5, .inl (G.2.1, 60, .inl tx))]) (inW [(ob, .inr (6, [.ref a1, .ref a2, .ref a3, .int (nI n), .ref a4, .int kp, .ref a5, .int (nI len), .int thr, .int (nI spot), .int bad, .int lt, .int one, .int two, .int wh, .long hash])), (a1, .inl (G.2.1, 97, .inl f)), (a2, .inl (G.2.1, 97, .inl th)), (a3, .inl (G.2.1, 582, .inl pa)), (a4, .inl (G.2.1, 97, .inl sn)), (a5, .inl (G.2.1, 60, .inl tx))])) 0 0 (inW [(ob, .inr (6, [.ref a1, .ref a2, .ref a3, .int (nI n), .ref a4, .int kp, .ref a5, .int (nI len), .int thr, .int (nI spot), .int bad, .int lt, .int one, .int two, .int wh, .long hash])), (a1, .inl (G.2.1, 97, .inl f)), (a2, .inl (G.2.1, 97, .inl th)), (a3, .inl (G.2.1, 582, .inl pa)), (a4, .inl (G.2.1, 97, .inl sn)), (a5, .inl (G.2.1, 60, .inl tx))]) := by
  refine ofB (cc := cX6_loads) (maxL := 5) (ret := (some .int)) (by decide) rfl (Nat.le_of_ble_eq_true rfl) ?_
  intro p e s m below meth c hx hb hr hlocks hml hown hin hts hE hI ls hl
  replace hown : s.vm.findClass RX6 = some m.cls := hown
  have hl : lv_has ls 5 [(0, .ref ob), (1, .int (nI q))] := hl
  obtain ⟨hP, hD0⟩ := hI
  have hD : va_D (inW [(ob, .inr (6, [.ref a1, .ref a2, .ref a3, .int (nI n), .ref a4, .int kp, .ref a5, .int (nI len), .int thr, .int (nI spot), .int bad, .int lt, .int one, .int two, .int wh, .long hash])), (a1, .inl (G.2.1, 97, .inl f)), (a2, .inl (G.2.1, 97, .inl th)), (a3, .inl (G.2.1, 582, .inl pa)), (a4, .inl (G.2.1, 97, .inl sn)), (a5, .inl (G.2.1, 60, .inl tx))]) [(ob, .inr (6, [.ref a1, .ref a2, .ref a3, .int (nI n), .ref a4, .int kp, .ref a5, .int (nI len), .int thr, .int (nI spot), .int bad, .int lt, .int one, .int two, .int wh, .long hash])), (a1, .inl (G.2.1, 97, .inl f)), (a2, .inl (G.2.1, 97, .inl th)), (a3, .inl (G.2.1, 582, .inl pa)), (a4, .inl (G.2.1, 97, .inl sn)), (a5, .inl (G.2.1, 60, .inl tx))] := D_self hD0
  obtain ⟨A, hAe⟩ : ∃ A, A = inW [(ob, .inr (6, [.ref a1, .ref a2, .ref a3, .int (nI n), .ref a4, .int kp, .ref a5, .int (nI len), .int thr, .int (nI spot), .int bad, .int lt, .int one, .int two, .int wh, .long hash])), (a1, .inl (G.2.1, 97, .inl f)), (a2, .inl (G.2.1, 97, .inl th)), (a3, .inl (G.2.1, 582, .inl pa)), (a4, .inl (G.2.1, 97, .inl sn)), (a5, .inl (G.2.1, 60, .inl tx))] := ⟨_, rfl⟩
  rw [← hAe] at hD ⊢
  have hS : va_S A s.heap s.heap [] := va_S.rf
  obtain ⟨H, hHe⟩ : ∃ H, H = s.heap := ⟨_, rfl⟩
  obtain ⟨locs, hle⟩ : ∃ q : List Loc, q = [] := ⟨_, rfl⟩
  rw [← hle] at hS ⊢
  have hP : va_P G.1 vwCl [(ob, .inr (6, [.ref a1, .ref a2, .ref a3, .int (nI n), .ref a4, .int kp, .ref a5, .int (nI len), .int thr, .int (nI spot), .int bad, .int lt, .int one, .int two, .int wh, .long hash])), (a1, .inl (G.2.1, 97, .inl f)), (a2, .inl (G.2.1, 97, .inl th)), (a3, .inl (G.2.1, 582, .inl pa)), (a4, .inl (G.2.1, 97, .inl sn)), (a5, .inl (G.2.1, 60, .inl tx))] H := by rw [hHe]; exact hP
  replace hS : va_S A s.heap H locs := by rw [hHe]; exact hS
  refine tH hHe ?_
  have w_0 : ∀ w ∈ u_ws RX6 TX6 16, w ∈ wsX6_loads := by decide +kernel
  have w_1 := hts (.fieldLink RX6 7 "CableFerryModel" "now" "[I") (by decide +kernel)
  obtain ⟨h51, h51b⟩ := hs.2.2.1
  obtain ⟨hn, hnb⟩ := hs.1 _ hq
  have hat : fAt f = 57 + (11 * nn f 51) := rfl
  refine lv_bipush (v := nI 57) hx hb dX6_loads_0 (by decide +kernel) ?_
  refine lv_bipush (v := nI 11) hx hb dX6_loads_2 (by decide +kernel) ?_
  refine lv_aload_n hx hb dX6_loads_4 rfl (lv_at hl 0 rfl) ?_
  refine va_get (D := G.1) (ci := 6) (v := .ref a1) (C := RX6) (T := TX6) (N := 16) hx hb hts w_0 hown hE.1 hP 0 rfl rfl 0 (by decide) w_1 (fun _ h9 => h9) rfl dX6_loads_5 ?_
  refine lv_bipush (v := nI 51) hx hb dX6_loads_8 (by decide +kernel) ?_
  refine ialdN (k := 51) hx hb hE.1 hP 1 0 rfl rfl (by omega) (by decide) dX6_loads_10 ?_
  refine tI (y := nI (nn f 51)) h51 ?_
  refine imulN hx hb dX6_loads_11 ?_
  refine iaddN hx hb dX6_loads_12 ?_
  refine tI (y := nI (fAt f)) (rfl) ?_
  refine lv_istore_n (lv' := [(2, .int (nI (fAt f))), (0, .ref ob), (1, .int (nI q))]) hx hb dX6_loads_13 rfl hl (by decide) rfl (fun ls hl => ?_)
  refine lv_aload_n hx hb dX6_loads_14 rfl (lv_at hl 1 rfl) ?_
  refine va_get (D := G.1) (ci := 6) (v := .ref a1) (C := RX6) (T := TX6) (N := 16) hx hb hts w_0 hown hE.1 hP 0 rfl rfl 0 (by decide) w_1 (fun _ h9 => h9) rfl dX6_loads_15 ?_
  refine lv_iload_n hx hb dX6_loads_18 rfl (lv_at hl 0 rfl) ?_
  refine lv_iconst (v := nI 1) hx hb dX6_loads_19 (by decide +kernel) ?_
  refine iaddN hx hb dX6_loads_20 ?_
  refine ialdN (k := ((fAt f) + 1)) hx hb hE.1 hP 1 0 rfl rfl (by omega) (by decide) dX6_loads_21 ?_
  refine lv_istore_n (lv' := [(3, .int (f ((fAt f) + 1))), (2, .int (nI (fAt f))), (0, .ref ob), (1, .int (nI q))]) hx hb dX6_loads_22 rfl hl (by decide) rfl (fun ls hl => ?_)
  refine lv_aload_n hx hb dX6_loads_23 rfl (lv_at hl 2 rfl) ?_
  refine va_get (D := G.1) (ci := 6) (v := .ref a1) (C := RX6) (T := TX6) (N := 16) hx hb hts w_0 hown hE.1 hP 0 rfl rfl 0 (by decide) w_1 (fun _ h9 => h9) rfl dX6_loads_24 ?_
  refine lv_iload_n hx hb dX6_loads_27 rfl (lv_at hl 1 rfl) ?_
  refine lv_dup2_11 hx hb dX6_loads_28 rfl rfl ?_
  refine ialdN (k := (fAt f)) hx hb hE.1 hP 1 0 rfl rfl (by omega) (by decide) dX6_loads_29 ?_
  refine lv_iconst (v := nI 1) hx hb dX6_loads_30 (by decide +kernel) ?_
  refine lv_isub hx hb dX6_loads_31 ?_
  refine iastN (k := (fAt f)) hx hb hE.1 hP hD hS 1 0 rfl rfl (by omega) (by decide) dX6_loads_32 (fun H locs hP hD hS => ?_)
  have hP : va_P G.1 vwCl [(ob, .inr (6, [.ref a1, .ref a2, .ref a3, .int (nI n), .ref a4, .int kp, .ref a5, .int (nI len), .int thr, .int (nI spot), .int bad, .int lt, .int one, .int two, .int wh, .long hash])), (a1, .inl (G.2.1, 97, .inl (upd f (fAt f) ((f (fAt f)) - (nI 1))))), (a2, .inl (G.2.1, 97, .inl th)), (a3, .inl (G.2.1, 582, .inl pa)), (a4, .inl (G.2.1, 97, .inl sn)), (a5, .inl (G.2.1, 60, .inl tx))] H := hP
  have hD : va_D A [(ob, .inr (6, [.ref a1, .ref a2, .ref a3, .int (nI n), .ref a4, .int kp, .ref a5, .int (nI len), .int thr, .int (nI spot), .int bad, .int lt, .int one, .int two, .int wh, .long hash])), (a1, .inl (G.2.1, 97, .inl (upd f (fAt f) ((f (fAt f)) - (nI 1))))), (a2, .inl (G.2.1, 97, .inl th)), (a3, .inl (G.2.1, 582, .inl pa)), (a4, .inl (G.2.1, 97, .inl sn)), (a5, .inl (G.2.1, 60, .inl tx))] := hD
  refine lv_iconst (v := nI 1) hx hb dX6_loads_33 (by decide +kernel) ?_
  refine lv_istore (lv' := [(4, .int (nI 1)), (3, .int (f ((fAt f) + 1))), (2, .int (nI (fAt f))), (0, .ref ob), (1, .int (nI q))]) hx hb dX6_loads_34 hl (by decide) rfl (fun ls hl => ?_)
  refine loopH (σ := Nat) (n := 5) (pc1 := 36) (fun i => 10 - i) (fun i => 1 ≤ i ∧ i ≤ 10) (fun i => fun (H : Heap) (locs : List Loc) => va_P G.1 vwCl [(ob, .inr (6, [.ref a1, .ref a2, .ref a3, .int (nI n), .ref a4, .int kp, .ref a5, .int (nI len), .int thr, .int (nI spot), .int bad, .int lt, .int one, .int two, .int wh, .long hash])), (a1, .inl (G.2.1, 97, .inl (shW (upd f (fAt f) (f (fAt f) - nI 1)) (fAt f) i))), (a2, .inl (G.2.1, 97, .inl th)), (a3, .inl (G.2.1, 582, .inl pa)), (a4, .inl (G.2.1, 97, .inl sn)), (a5, .inl (G.2.1, 60, .inl tx))] H ∧ va_D A [(ob, .inr (6, [.ref a1, .ref a2, .ref a3, .int (nI n), .ref a4, .int kp, .ref a5, .int (nI len), .int thr, .int (nI spot), .int bad, .int lt, .int one, .int two, .int wh, .long hash])), (a1, .inl (G.2.1, 97, .inl (shW (upd f (fAt f) (f (fAt f) - nI 1)) (fAt f) i))), (a2, .inl (G.2.1, 97, .inl th)), (a3, .inl (G.2.1, 582, .inl pa)), (a4, .inl (G.2.1, 97, .inl sn)), (a5, .inl (G.2.1, 60, .inl tx))] ∧ va_S A s.heap H locs) (fun i => [(4, .int (nI i)), (3, .int (f ((fAt f) + 1))), (2, .int (nI (fAt f))), (0, .ref ob), (1, .int (nI q))]) (fun i => []) ?_ (1) H _ _ ⟨by omega, by omega⟩ (by (try dsimp only); rw [shW_1]; exact ⟨hP, hD, hS⟩) (lv_sub hl [0, 1, 2, 3, 4] rfl)
  rintro i H locs ls hI ⟨hP, hD, hS⟩ hl ih36
  have hl : lv_has ls 5 [(4, .int (nI i)), (3, .int (f ((fAt f) + 1))), (2, .int (nI (fAt f))), (0, .ref ob), (1, .int (nI q))] := hl
  replace hI : 1 ≤ i ∧ i ≤ 10 := hI
  have hP : va_P G.1 vwCl [(ob, .inr (6, [.ref a1, .ref a2, .ref a3, .int (nI n), .ref a4, .int kp, .ref a5, .int (nI len), .int thr, .int (nI spot), .int bad, .int lt, .int one, .int two, .int wh, .long hash])), (a1, .inl (G.2.1, 97, .inl (shW (upd f (fAt f) (f (fAt f) - nI 1)) (fAt f) i))), (a2, .inl (G.2.1, 97, .inl th)), (a3, .inl (G.2.1, 582, .inl pa)), (a4, .inl (G.2.1, 97, .inl sn)), (a5, .inl (G.2.1, 60, .inl tx))] H := hP
  have hD : va_D A [(ob, .inr (6, [.ref a1, .ref a2, .ref a3, .int (nI n), .ref a4, .int kp, .ref a5, .int (nI len), .int thr, .int (nI spot), .int bad, .int lt, .int one, .int two, .int wh, .long hash])), (a1, .inl (G.2.1, 97, .inl (shW (upd f (fAt f) (f (fAt f) - nI 1)) (fAt f) i))), (a2, .inl (G.2.1, 97, .inl th)), (a3, .inl (G.2.1, 582, .inl pa)), (a4, .inl (G.2.1, 97, .inl sn)), (a5, .inl (G.2.1, 60, .inl tx))] := hD
  refine tS (st' := []) rfl ?_
  refine lv_iload hx hb dX6_loads_36 (lv_at hl 0 rfl) ?_
  refine lv_bipush (v := nI 9) hx hb dX6_loads_38 (by decide +kernel) ?_
  refine icmp_gtN (tgt := 69) hx hb (by omega) (by omega) dX6_loads_40 (by decide) (fun c40 => ?_) (fun c40 => ?_)
  · skip
    have hj : i = 10 := by omega
    rw [hj] at hP hD
    refine lv_aload_n hx hb dX6_loads_69 rfl (lv_at hl 3 rfl) ?_
    refine va_get (D := G.1) (ci := 6) (v := .ref a1) (C := RX6) (T := TX6) (N := 16) hx hb hts w_0 hown hE.1 hP 0 rfl rfl 0 (by decide) w_1 (fun _ h9 => h9) rfl dX6_loads_70 ?_
    refine lv_iload_n hx hb dX6_loads_73 rfl (lv_at hl 2 rfl) ?_
    refine lv_bipush (v := nI 10) hx hb dX6_loads_74 (by decide +kernel) ?_
    refine iaddN hx hb dX6_loads_76 ?_
    refine lv_iconst (v := nI 0) hx hb dX6_loads_77 (by decide +kernel) ?_
    refine iastN (k := ((fAt f) + 10)) hx hb hE.1 hP hD hS 1 0 rfl rfl (by omega) (by decide) dX6_loads_78 (fun H locs hP hD hS => ?_)
    have hP : va_P G.1 vwCl [(ob, .inr (6, [.ref a1, .ref a2, .ref a3, .int (nI n), .ref a4, .int kp, .ref a5, .int (nI len), .int thr, .int (nI spot), .int bad, .int lt, .int one, .int two, .int wh, .long hash])), (a1, .inl (G.2.1, 97, .inl (upd (shW (upd f (fAt f) (f (fAt f) - nI 1)) (fAt f) 10) ((fAt f) + 10) (nI 0)))), (a2, .inl (G.2.1, 97, .inl th)), (a3, .inl (G.2.1, 582, .inl pa)), (a4, .inl (G.2.1, 97, .inl sn)), (a5, .inl (G.2.1, 60, .inl tx))] H := hP
    have hD : va_D A [(ob, .inr (6, [.ref a1, .ref a2, .ref a3, .int (nI n), .ref a4, .int kp, .ref a5, .int (nI len), .int thr, .int (nI spot), .int bad, .int lt, .int one, .int two, .int wh, .long hash])), (a1, .inl (G.2.1, 97, .inl (upd (shW (upd f (fAt f) (f (fAt f) - nI 1)) (fAt f) 10) ((fAt f) + 10) (nI 0)))), (a2, .inl (G.2.1, 97, .inl th)), (a3, .inl (G.2.1, 582, .inl pa)), (a4, .inl (G.2.1, 97, .inl sn)), (a5, .inl (G.2.1, 60, .inl tx))] := hD
    have hP : va_P G.1 vwCl [(ob, .inr (6, [.ref a1, .ref a2, .ref a3, .int (nI n), .ref a4, .int kp, .ref a5, .int (nI len), .int thr, .int (nI spot), .int bad, .int lt, .int one, .int two, .int wh, .long hash])), (a1, .inl (G.2.1, 97, .inl (fL1 f))), (a2, .inl (G.2.1, 97, .inl th)), (a3, .inl (G.2.1, 582, .inl pa)), (a4, .inl (G.2.1, 97, .inl sn)), (a5, .inl (G.2.1, 60, .inl tx))] H := hP
    have hD : va_D A [(ob, .inr (6, [.ref a1, .ref a2, .ref a3, .int (nI n), .ref a4, .int kp, .ref a5, .int (nI len), .int thr, .int (nI spot), .int bad, .int lt, .int one, .int two, .int wh, .long hash])), (a1, .inl (G.2.1, 97, .inl (fL1 f))), (a2, .inl (G.2.1, 97, .inl th)), (a3, .inl (G.2.1, 582, .inl pa)), (a4, .inl (G.2.1, 97, .inl sn)), (a5, .inl (G.2.1, 60, .inl tx))] := hD
    refine lv_bipush (v := nI 79) hx hb dX6_loads_79 (by decide +kernel) ?_
    refine lv_bipush (v := nI 9) hx hb dX6_loads_81 (by decide +kernel) ?_
    refine lv_iload_n hx hb dX6_loads_83 rfl (lv_at hl 4 rfl) ?_
    refine imulN hx hb dX6_loads_84 ?_
    refine iaddN hx hb dX6_loads_85 ?_
    refine lv_istore (lv' := [(4, .int (nI (79 + (9 * q)))), (3, .int (f ((fAt f) + 1))), (2, .int (nI (fAt f))), (0, .ref ob), (1, .int (nI q))]) hx hb dX6_loads_86 hl (by decide) rfl (fun ls hl => ?_)
    refine lv_aload_n hx hb dX6_loads_88 rfl (lv_at hl 3 rfl) ?_
    refine va_get (D := G.1) (ci := 6) (v := .ref a1) (C := RX6) (T := TX6) (N := 16) hx hb hts w_0 hown hE.1 hP 0 rfl rfl 0 (by decide) w_1 (fun _ h9 => h9) rfl dX6_loads_89 ?_
    refine lv_iload hx hb dX6_loads_92 (lv_at hl 0 rfl) ?_
    refine lv_iconst (v := nI 1) hx hb dX6_loads_94 (by decide +kernel) ?_
    refine iaddN hx hb dX6_loads_95 ?_
    refine lv_iconst (v := nI 2) hx hb dX6_loads_96 (by decide +kernel) ?_
    refine lv_aload_n hx hb dX6_loads_97 rfl (lv_at hl 3 rfl) ?_
    refine va_get (D := G.1) (ci := 6) (v := .ref a1) (C := RX6) (T := TX6) (N := 16) hx hb hts w_0 hown hE.1 hP 0 rfl rfl 0 (by decide) w_1 (fun _ h9 => h9) rfl dX6_loads_98 ?_
    refine lv_iload hx hb dX6_loads_101 (lv_at hl 0 rfl) ?_
    refine ialdN (k := (79 + (9 * q))) hx hb hE.1 hP 1 0 rfl rfl (by omega) (by decide) dX6_loads_103 ?_
    refine tI (y := nI (nn f (79 + (9 * q)))) ((l1_o (by omega)).trans hn) ?_
    refine imulN hx hb dX6_loads_104 ?_
    refine iaddN hx hb dX6_loads_105 ?_
    refine lv_iload_n hx hb dX6_loads_106 rfl (lv_at hl 1 rfl) ?_
    refine iastN (k := (((79 + (9 * q)) + 1) + (2 * (nn f (79 + (9 * q)))))) hx hb hE.1 hP hD hS 1 0 rfl rfl (by omega) (by decide) dX6_loads_107 (fun H locs hP hD hS => ?_)
    have hP : va_P G.1 vwCl [(ob, .inr (6, [.ref a1, .ref a2, .ref a3, .int (nI n), .ref a4, .int kp, .ref a5, .int (nI len), .int thr, .int (nI spot), .int bad, .int lt, .int one, .int two, .int wh, .long hash])), (a1, .inl (G.2.1, 97, .inl (upd (fL1 f) (((79 + (9 * q)) + 1) + (2 * (nn f (79 + (9 * q))))) (f ((fAt f) + 1))))), (a2, .inl (G.2.1, 97, .inl th)), (a3, .inl (G.2.1, 582, .inl pa)), (a4, .inl (G.2.1, 97, .inl sn)), (a5, .inl (G.2.1, 60, .inl tx))] H := hP
    have hD : va_D A [(ob, .inr (6, [.ref a1, .ref a2, .ref a3, .int (nI n), .ref a4, .int kp, .ref a5, .int (nI len), .int thr, .int (nI spot), .int bad, .int lt, .int one, .int two, .int wh, .long hash])), (a1, .inl (G.2.1, 97, .inl (upd (fL1 f) (((79 + (9 * q)) + 1) + (2 * (nn f (79 + (9 * q))))) (f ((fAt f) + 1))))), (a2, .inl (G.2.1, 97, .inl th)), (a3, .inl (G.2.1, 582, .inl pa)), (a4, .inl (G.2.1, 97, .inl sn)), (a5, .inl (G.2.1, 60, .inl tx))] := hD
    refine lv_aload_n hx hb dX6_loads_108 rfl (lv_at hl 3 rfl) ?_
    refine va_get (D := G.1) (ci := 6) (v := .ref a1) (C := RX6) (T := TX6) (N := 16) hx hb hts w_0 hown hE.1 hP 0 rfl rfl 0 (by decide) w_1 (fun _ h9 => h9) rfl dX6_loads_109 ?_
    refine lv_iload hx hb dX6_loads_112 (lv_at hl 0 rfl) ?_
    refine lv_iconst (v := nI 2) hx hb dX6_loads_114 (by decide +kernel) ?_
    refine iaddN hx hb dX6_loads_115 ?_
    refine lv_iconst (v := nI 2) hx hb dX6_loads_116 (by decide +kernel) ?_
    refine lv_aload_n hx hb dX6_loads_117 rfl (lv_at hl 3 rfl) ?_
    refine va_get (D := G.1) (ci := 6) (v := .ref a1) (C := RX6) (T := TX6) (N := 16) hx hb hts w_0 hown hE.1 hP 0 rfl rfl 0 (by decide) w_1 (fun _ h9 => h9) rfl dX6_loads_118 ?_
    refine lv_iload hx hb dX6_loads_121 (lv_at hl 0 rfl) ?_
    refine ialdN (k := (79 + (9 * q))) hx hb hE.1 hP 1 0 rfl rfl (by omega) (by decide) dX6_loads_123 ?_
    refine tI (y := (fL1 f) (79 + (9 * q))) ((pk_un (by omega))) ?_
    refine tI (y := nI (nn f (79 + (9 * q)))) ((l1_o (by omega)).trans hn) ?_
    refine imulN hx hb dX6_loads_124 ?_
    refine iaddN hx hb dX6_loads_125 ?_
    refine lv_aload_n hx hb dX6_loads_126 rfl (lv_at hl 3 rfl) ?_
    refine va_get (D := G.1) (ci := 6) (v := .ref a1) (C := RX6) (T := TX6) (N := 16) hx hb hts w_0 hown hE.1 hP 0 rfl rfl 0 (by decide) w_1 (fun _ h9 => h9) rfl dX6_loads_127 ?_
    refine lv_bipush (v := nI 51) hx hb dX6_loads_130 (by decide +kernel) ?_
    refine ialdN (k := 51) hx hb hE.1 hP 1 0 rfl rfl (by omega) (by decide) dX6_loads_132 ?_
    refine tI (y := (fL1 f) 51) ((pk_un (by omega))) ?_
    refine tI (y := f 51) (l1_o (by omega)) ?_
    refine iastN (k := (((79 + (9 * q)) + 2) + (2 * (nn f (79 + (9 * q)))))) hx hb hE.1 hP hD hS 1 0 rfl rfl (by omega) (by decide) dX6_loads_133 (fun H locs hP hD hS => ?_)
    have hP : va_P G.1 vwCl [(ob, .inr (6, [.ref a1, .ref a2, .ref a3, .int (nI n), .ref a4, .int kp, .ref a5, .int (nI len), .int thr, .int (nI spot), .int bad, .int lt, .int one, .int two, .int wh, .long hash])), (a1, .inl (G.2.1, 97, .inl (upd (upd (fL1 f) (((79 + (9 * q)) + 1) + (2 * (nn f (79 + (9 * q))))) (f ((fAt f) + 1))) (((79 + (9 * q)) + 2) + (2 * (nn f (79 + (9 * q))))) (f 51)))), (a2, .inl (G.2.1, 97, .inl th)), (a3, .inl (G.2.1, 582, .inl pa)), (a4, .inl (G.2.1, 97, .inl sn)), (a5, .inl (G.2.1, 60, .inl tx))] H := hP
    have hD : va_D A [(ob, .inr (6, [.ref a1, .ref a2, .ref a3, .int (nI n), .ref a4, .int kp, .ref a5, .int (nI len), .int thr, .int (nI spot), .int bad, .int lt, .int one, .int two, .int wh, .long hash])), (a1, .inl (G.2.1, 97, .inl (upd (upd (fL1 f) (((79 + (9 * q)) + 1) + (2 * (nn f (79 + (9 * q))))) (f ((fAt f) + 1))) (((79 + (9 * q)) + 2) + (2 * (nn f (79 + (9 * q))))) (f 51)))), (a2, .inl (G.2.1, 97, .inl th)), (a3, .inl (G.2.1, 582, .inl pa)), (a4, .inl (G.2.1, 97, .inl sn)), (a5, .inl (G.2.1, 60, .inl tx))] := hD
    refine lv_aload_n hx hb dX6_loads_134 rfl (lv_at hl 3 rfl) ?_
    refine va_get (D := G.1) (ci := 6) (v := .ref a1) (C := RX6) (T := TX6) (N := 16) hx hb hts w_0 hown hE.1 hP 0 rfl rfl 0 (by decide) w_1 (fun _ h9 => h9) rfl dX6_loads_135 ?_
    refine lv_iload hx hb dX6_loads_138 (lv_at hl 0 rfl) ?_
    refine lv_dup2_11 hx hb dX6_loads_140 rfl rfl ?_
    refine ialdN (k := (79 + (9 * q))) hx hb hE.1 hP 1 0 rfl rfl (by omega) (by decide) dX6_loads_141 ?_
    refine tI (y := (fL1 f) (79 + (9 * q))) (((pk_un (by omega))).trans ((pk_un (by omega)))) ?_
    refine tI (y := f (79 + (9 * q))) (l1_o (by omega)) ?_
    refine lv_iconst (v := nI 1) hx hb dX6_loads_142 (by decide +kernel) ?_
    refine lv_iadd hx hb dX6_loads_143 ?_
    refine iastN (k := (79 + (9 * q))) hx hb hE.1 hP hD hS 1 0 rfl rfl (by omega) (by decide) dX6_loads_144 (fun H locs hP hD hS => ?_)
    have hP : va_P G.1 vwCl [(ob, .inr (6, [.ref a1, .ref a2, .ref a3, .int (nI n), .ref a4, .int kp, .ref a5, .int (nI len), .int thr, .int (nI spot), .int bad, .int lt, .int one, .int two, .int wh, .long hash])), (a1, .inl (G.2.1, 97, .inl (upd (upd (upd (fL1 f) (((79 + (9 * q)) + 1) + (2 * (nn f (79 + (9 * q))))) (f ((fAt f) + 1))) (((79 + (9 * q)) + 2) + (2 * (nn f (79 + (9 * q))))) (f 51)) (79 + (9 * q)) ((f (79 + (9 * q))) + (nI 1))))), (a2, .inl (G.2.1, 97, .inl th)), (a3, .inl (G.2.1, 582, .inl pa)), (a4, .inl (G.2.1, 97, .inl sn)), (a5, .inl (G.2.1, 60, .inl tx))] H := hP
    have hD : va_D A [(ob, .inr (6, [.ref a1, .ref a2, .ref a3, .int (nI n), .ref a4, .int kp, .ref a5, .int (nI len), .int thr, .int (nI spot), .int bad, .int lt, .int one, .int two, .int wh, .long hash])), (a1, .inl (G.2.1, 97, .inl (upd (upd (upd (fL1 f) (((79 + (9 * q)) + 1) + (2 * (nn f (79 + (9 * q))))) (f ((fAt f) + 1))) (((79 + (9 * q)) + 2) + (2 * (nn f (79 + (9 * q))))) (f 51)) (79 + (9 * q)) ((f (79 + (9 * q))) + (nI 1))))), (a2, .inl (G.2.1, 97, .inl th)), (a3, .inl (G.2.1, 582, .inl pa)), (a4, .inl (G.2.1, 97, .inl sn)), (a5, .inl (G.2.1, 60, .inl tx))] := hD
    refine lv_iload_n hx hb dX6_loads_145 rfl (lv_at hl 1 rfl) ?_
    refine tS (st' := [.int (f (fAt f + 1))]) (congrArg (fun z => [Value.int z]) ((by (try simp only [i_lt, Classical.not_not, b2_0, b2_1] at c40); simp [b2, c40]))) ?_
    exact W.iret hx hb hr (fun t ht hW => ⟨rfl, by rw [ht]; exact ⟨hP, hD⟩, hS.F ht⟩) hS.2.2 dX6_loads_146
  · skip
    refine lv_aload_n hx hb dX6_loads_43 rfl (lv_at hl 3 rfl) ?_
    refine va_get (D := G.1) (ci := 6) (v := .ref a1) (C := RX6) (T := TX6) (N := 16) hx hb hts w_0 hown hE.1 hP 0 rfl rfl 0 (by decide) w_1 (fun _ h9 => h9) rfl dX6_loads_44 ?_
    refine lv_iload_n hx hb dX6_loads_47 rfl (lv_at hl 2 rfl) ?_
    refine lv_iload hx hb dX6_loads_48 (lv_at hl 0 rfl) ?_
    refine iaddN hx hb dX6_loads_50 ?_
    refine lv_aload_n hx hb dX6_loads_51 rfl (lv_at hl 3 rfl) ?_
    refine va_get (D := G.1) (ci := 6) (v := .ref a1) (C := RX6) (T := TX6) (N := 16) hx hb hts w_0 hown hE.1 hP 0 rfl rfl 0 (by decide) w_1 (fun _ h9 => h9) rfl dX6_loads_52 ?_
    refine lv_iload_n hx hb dX6_loads_55 rfl (lv_at hl 2 rfl) ?_
    refine lv_iload hx hb dX6_loads_56 (lv_at hl 0 rfl) ?_
    refine iaddN hx hb dX6_loads_58 ?_
    refine lv_iconst (v := nI 1) hx hb dX6_loads_59 (by decide +kernel) ?_
    refine iaddN hx hb dX6_loads_60 ?_
    refine ialdN (k := (((fAt f) + i) + 1)) hx hb hE.1 hP 1 0 rfl rfl (by omega) (by decide) dX6_loads_61 ?_
    refine tI (y := upd f (fAt f) (f (fAt f) - nI 1) ((fAt f + i) + 1)) (shW_o (by omega)) ?_
    refine iastN (k := ((fAt f) + i)) hx hb hE.1 hP hD hS 1 0 rfl rfl (by omega) (by decide) dX6_loads_62 (fun H locs hP hD hS => ?_)
    have hP : va_P G.1 vwCl [(ob, .inr (6, [.ref a1, .ref a2, .ref a3, .int (nI n), .ref a4, .int kp, .ref a5, .int (nI len), .int thr, .int (nI spot), .int bad, .int lt, .int one, .int two, .int wh, .long hash])), (a1, .inl (G.2.1, 97, .inl (upd (shW (upd f (fAt f) (f (fAt f) - nI 1)) (fAt f) i) ((fAt f) + i) (upd f (fAt f) (f (fAt f) - nI 1) ((fAt f + i) + 1))))), (a2, .inl (G.2.1, 97, .inl th)), (a3, .inl (G.2.1, 582, .inl pa)), (a4, .inl (G.2.1, 97, .inl sn)), (a5, .inl (G.2.1, 60, .inl tx))] H := hP
    have hD : va_D A [(ob, .inr (6, [.ref a1, .ref a2, .ref a3, .int (nI n), .ref a4, .int kp, .ref a5, .int (nI len), .int thr, .int (nI spot), .int bad, .int lt, .int one, .int two, .int wh, .long hash])), (a1, .inl (G.2.1, 97, .inl (upd (shW (upd f (fAt f) (f (fAt f) - nI 1)) (fAt f) i) ((fAt f) + i) (upd f (fAt f) (f (fAt f) - nI 1) ((fAt f + i) + 1))))), (a2, .inl (G.2.1, 97, .inl th)), (a3, .inl (G.2.1, 582, .inl pa)), (a4, .inl (G.2.1, 97, .inl sn)), (a5, .inl (G.2.1, 60, .inl tx))] := hD
    refine lv_iinc (v := nI (i + 1)) (lv' := [(4, .int (nI (i + 1))), (3, .int (f ((fAt f) + 1))), (2, .int (nI (fAt f))), (0, .ref ob), (1, .int (nI q))]) hx hb dX6_loads_63 hl (k := 0) rfl (nI_inc1 _) (by decide) rfl (fun ls hl => ?_)
    refine lv_goto (tgt := 36) hx hb dX6_loads_66 (by decide) ?_
    exact ih36 (i + 1) _ _ _ ⟨by omega, by omega⟩ (by (try dsimp only); rw [shW_s hI.1] at hP hD; exact ⟨hP, hD, hS⟩) (lv_sub hl [0, 1, 2, 3, 4] rfl) (by (try dsimp only); omega)
set_option maxHeartbeats 4000000 in
set_option maxRecDepth 100000 in
theorem c_X6_unloads (l : Launch) (G : eG) (ob a1 a2 a3 a4 a5 : Nat) (f th pa sn tx : Nat → Int32) (n len spot : Nat) (kp thr bad lt one two wh : Int32) (hash : Int64) (hs : Shp f) : Met l yX6_unloads wsX6_unloads ({ frames := 1, cells := 0, slots := 0, locals := 23 }) (PC [.ref ob] G (fun H => va_P G.1 vwCl [(ob, .inr (6, [.ref a1, .ref a2, .ref a3, .int (nI n), .ref a4, .int kp, .ref a5, .int (nI len), .int thr, .int (nI spot), .int bad, .int lt, .int one, .int two, .int wh, .long hash])), (a1, .inl (G.2.1, 97, .inl f)), (a2, .inl (G.2.1, 97, .inl th)), (a3, .inl (G.2.1, 582, .inl pa)), (a4, .inl (G.2.1, 97, .inl sn)), (a5, .inl (G.2.1, 60, .inl tx))] H ∧ va_D (fun _ => True) [(ob, .inr (6, [.ref a1, .ref a2, .ref a3, .int (nI n), .ref a4, .int kp, .ref a5, .int (nI len), .int thr, .int (nI spot), .int bad, .int lt, .int one, .int two, .int wh, .long hash])), (a1, .inl (G.2.1, 97, .inl f)), (a2, .inl (G.2.1, 97, .inl th)), (a3, .inl (G.2.1, 582, .inl pa)), (a4, .inl (G.2.1, 97, .inl sn)), (a5, .inl (G.2.1, 60, .inl tx))])) (MV (some (.int (unC f))) (fun H => va_P G.1 vwCl [(ob, .inr (6, [.ref a1, .ref a2, .ref a3, .int (nI n), .ref a4, .int kp, .ref a5, .int (nI len), .int thr, .int (nI spot), .int bad, .int lt, .int one, .int two, .int wh, .long hash])), (a1, .inl (G.2.1, 97, .inl (fUnl f))), (a2, .inl (G.2.1, 97, .inl th)), (a3, .inl (G.2.1, 582, .inl pa)), (a4, .inl (G.2.1, 97, .inl sn)), (a5, .inl (G.2.1, 60, .inl tx))] H ∧ va_D (inW [(ob, .inr (6, [.ref a1, .ref a2, .ref a3, .int (nI n), .ref a4, .int kp, .ref a5, .int (nI len), .int thr, .int (nI spot), .int bad, .int lt, .int one, .int two, .int wh, .long hash])), (a1, .inl (G.2.1, 97, .inl f)), (a2, .inl (G.2.1, 97, .inl th)), (a3, .inl (G.2.1, 582, .inl pa)), (a4, .inl (G.2.1, 97, .inl sn)), (a5, .inl (G.2.1, 60, .inl tx))]) [(ob, .inr (6, [.ref a1, .ref a2, .ref a3, .int (nI n), .ref a4, .int kp, .ref a5, .int (nI len), .int thr, .int (nI spot), .int bad, .int lt, .int one, .int two, .int wh, .long hash])), (a1, .inl (G.2.1, 97, .inl (fUnl f))), (a2, .inl (G.2.1, 97, .inl th)), (a3, .inl (G.2.1, 582, .inl pa)), (a4, .inl (G.2.1, 97, .inl sn)), (a5, .inl (G.2.1, 60, .inl tx))]) (inW [(ob, .inr (6, [.ref a1, .ref a2, .ref a3, .int (nI n), .ref a4, .int kp, .ref a5, .int (nI len), .int thr, .int (nI spot), .int bad, .int lt, .int one, .int two, .int wh, .long hash])), (a1, .inl (G.2.1, 97, .inl f)), (a2, .inl (G.2.1, 97, .inl th)), (a3, .inl (G.2.1, 582, .inl pa)), (a4, .inl (G.2.1, 97, .inl sn)), (a5, .inl (G.2.1, 60, .inl tx))])) 0 0 (inW [(ob, .inr (6, [.ref a1, .ref a2, .ref a3, .int (nI n), .ref a4, .int kp, .ref a5, .int (nI len), .int thr, .int (nI spot), .int bad, .int lt, .int one, .int two, .int wh, .long hash])), (a1, .inl (G.2.1, 97, .inl f)), (a2, .inl (G.2.1, 97, .inl th)), (a3, .inl (G.2.1, 582, .inl pa)), (a4, .inl (G.2.1, 97, .inl sn)), (a5, .inl (G.2.1, 60, .inl tx))]) := by
  refine ofB (cc := cX6_unloads) (maxL := 5) (ret := (some .int)) (by decide) rfl (Nat.le_of_ble_eq_true rfl) ?_
  intro p e s m below meth c hx hb hr hlocks hml hown hin hts hE hI ls hl
  replace hown : s.vm.findClass RX6 = some m.cls := hown
  have hl : lv_has ls 5 [(0, .ref ob)] := hl
  obtain ⟨hP, hD0⟩ := hI
  have hD : va_D (inW [(ob, .inr (6, [.ref a1, .ref a2, .ref a3, .int (nI n), .ref a4, .int kp, .ref a5, .int (nI len), .int thr, .int (nI spot), .int bad, .int lt, .int one, .int two, .int wh, .long hash])), (a1, .inl (G.2.1, 97, .inl f)), (a2, .inl (G.2.1, 97, .inl th)), (a3, .inl (G.2.1, 582, .inl pa)), (a4, .inl (G.2.1, 97, .inl sn)), (a5, .inl (G.2.1, 60, .inl tx))]) [(ob, .inr (6, [.ref a1, .ref a2, .ref a3, .int (nI n), .ref a4, .int kp, .ref a5, .int (nI len), .int thr, .int (nI spot), .int bad, .int lt, .int one, .int two, .int wh, .long hash])), (a1, .inl (G.2.1, 97, .inl f)), (a2, .inl (G.2.1, 97, .inl th)), (a3, .inl (G.2.1, 582, .inl pa)), (a4, .inl (G.2.1, 97, .inl sn)), (a5, .inl (G.2.1, 60, .inl tx))] := D_self hD0
  obtain ⟨A, hAe⟩ : ∃ A, A = inW [(ob, .inr (6, [.ref a1, .ref a2, .ref a3, .int (nI n), .ref a4, .int kp, .ref a5, .int (nI len), .int thr, .int (nI spot), .int bad, .int lt, .int one, .int two, .int wh, .long hash])), (a1, .inl (G.2.1, 97, .inl f)), (a2, .inl (G.2.1, 97, .inl th)), (a3, .inl (G.2.1, 582, .inl pa)), (a4, .inl (G.2.1, 97, .inl sn)), (a5, .inl (G.2.1, 60, .inl tx))] := ⟨_, rfl⟩
  rw [← hAe] at hD ⊢
  have hS : va_S A s.heap s.heap [] := va_S.rf
  obtain ⟨H, hHe⟩ : ∃ H, H = s.heap := ⟨_, rfl⟩
  obtain ⟨locs, hle⟩ : ∃ q : List Loc, q = [] := ⟨_, rfl⟩
  rw [← hle] at hS ⊢
  have hP : va_P G.1 vwCl [(ob, .inr (6, [.ref a1, .ref a2, .ref a3, .int (nI n), .ref a4, .int kp, .ref a5, .int (nI len), .int thr, .int (nI spot), .int bad, .int lt, .int one, .int two, .int wh, .long hash])), (a1, .inl (G.2.1, 97, .inl f)), (a2, .inl (G.2.1, 97, .inl th)), (a3, .inl (G.2.1, 582, .inl pa)), (a4, .inl (G.2.1, 97, .inl sn)), (a5, .inl (G.2.1, 60, .inl tx))] H := by rw [hHe]; exact hP
  replace hS : va_S A s.heap H locs := by rw [hHe]; exact hS
  refine tH hHe ?_
  have w_0 : ∀ w ∈ u_ws RX6 TX6 16, w ∈ wsX6_unloads := by decide +kernel
  have w_1 := hts (.fieldLink RX6 7 "CableFerryModel" "now" "[I") (by decide +kernel)
  obtain ⟨h51, h51b⟩ := hs.2.2.1
  refine lv_iconst (v := nI 0) hx hb dX6_unloads_0 (by decide +kernel) ?_
  refine lv_istore_n (lv' := [(1, .int (nI 0)), (0, .ref ob)]) hx hb dX6_unloads_1 rfl hl (by decide) rfl (fun ls hl => ?_)
  refine lv_iconst (v := nI 0) hx hb dX6_unloads_2 (by decide +kernel) ?_
  refine lv_istore_n (lv' := [(2, .int (nI 0)), (1, .int (nI 0)), (0, .ref ob)]) hx hb dX6_unloads_3 rfl hl (by decide) rfl (fun ls hl => ?_)
  refine loopH (σ := Nat × Int32) (n := 5) (pc1 := 4) (fun (z_ : Nat × Int32) => match z_ with | (i, acc) => 8 - i) (fun (z_ : Nat × Int32) => match z_ with | (i, acc) => i ≤ 8 ∧ acc = sumI (fun k => b2 (unF f k = true)) i) (fun (z_ : Nat × Int32) => match z_ with | (i, acc) => fun (H : Heap) (locs : List Loc) => va_P G.1 vwCl [(ob, .inr (6, [.ref a1, .ref a2, .ref a3, .int (nI n), .ref a4, .int kp, .ref a5, .int (nI len), .int thr, .int (nI spot), .int bad, .int lt, .int one, .int two, .int wh, .long hash])), (a1, .inl (G.2.1, 97, .inl (upd f 55 (f 55 + sumI (unT f) i)))), (a2, .inl (G.2.1, 97, .inl th)), (a3, .inl (G.2.1, 582, .inl pa)), (a4, .inl (G.2.1, 97, .inl sn)), (a5, .inl (G.2.1, 60, .inl tx))] H ∧ va_D A [(ob, .inr (6, [.ref a1, .ref a2, .ref a3, .int (nI n), .ref a4, .int kp, .ref a5, .int (nI len), .int thr, .int (nI spot), .int bad, .int lt, .int one, .int two, .int wh, .long hash])), (a1, .inl (G.2.1, 97, .inl (upd f 55 (f 55 + sumI (unT f) i)))), (a2, .inl (G.2.1, 97, .inl th)), (a3, .inl (G.2.1, 582, .inl pa)), (a4, .inl (G.2.1, 97, .inl sn)), (a5, .inl (G.2.1, 60, .inl tx))] ∧ va_S A s.heap H locs) (fun (z_ : Nat × Int32) => match z_ with | (i, acc) => [(2, .int (nI i)), (1, .int acc), (0, .ref ob)]) (fun (z_ : Nat × Int32) => match z_ with | (i, acc) => []) ?_ (0, nI 0) H _ _ ⟨Nat.zero_le _, rfl⟩ (by (try dsimp only); rw [show sumI (unT f) 0 = nI 0 from rfl, upd0]; exact ⟨hP, hD, hS⟩) (lv_sub hl [0, 1, 2] rfl)
  rintro ⟨i, acc⟩ H locs ls hI ⟨hP, hD, hS⟩ hl ih4
  have hl : lv_has ls 5 [(2, .int (nI i)), (1, .int acc), (0, .ref ob)] := hl
  replace hI : i ≤ 8 ∧ acc = sumI (fun k => b2 (unF f k = true)) i := hI
  obtain ⟨hi, ha⟩ := hI
  have hsg : Shp (upd f 55 (f 55 + sumI (unT f) i)) := shp_55 hs
  have hP : va_P G.1 vwCl [(ob, .inr (6, [.ref a1, .ref a2, .ref a3, .int (nI n), .ref a4, .int kp, .ref a5, .int (nI len), .int thr, .int (nI spot), .int bad, .int lt, .int one, .int two, .int wh, .long hash])), (a1, .inl (G.2.1, 97, .inl (upd f 55 (f 55 + sumI (unT f) i)))), (a2, .inl (G.2.1, 97, .inl th)), (a3, .inl (G.2.1, 582, .inl pa)), (a4, .inl (G.2.1, 97, .inl sn)), (a5, .inl (G.2.1, 60, .inl tx))] H := hP
  have hD : va_D A [(ob, .inr (6, [.ref a1, .ref a2, .ref a3, .int (nI n), .ref a4, .int kp, .ref a5, .int (nI len), .int thr, .int (nI spot), .int bad, .int lt, .int one, .int two, .int wh, .long hash])), (a1, .inl (G.2.1, 97, .inl (upd f 55 (f 55 + sumI (unT f) i)))), (a2, .inl (G.2.1, 97, .inl th)), (a3, .inl (G.2.1, 582, .inl pa)), (a4, .inl (G.2.1, 97, .inl sn)), (a5, .inl (G.2.1, 60, .inl tx))] := hD
  refine tS (st' := []) rfl ?_
  refine lv_iload_n hx hb dX6_unloads_4 rfl (lv_at hl 0 rfl) ?_
  refine lv_bipush (v := nI 8) hx hb dX6_unloads_5 (by decide +kernel) ?_
  refine icmp_geN (tgt := 110) hx hb (by omega) (by omega) dX6_unloads_7 (by decide) (fun c7 => ?_) (fun c7 => ?_)
  · skip
    have hj : i = 8 := by omega
    have hacc : acc = unC f := by rw [ha, hj]; rfl
    rw [hj] at hP hD
    rw [hacc] at hl
    have hP : va_P G.1 vwCl [(ob, .inr (6, [.ref a1, .ref a2, .ref a3, .int (nI n), .ref a4, .int kp, .ref a5, .int (nI len), .int thr, .int (nI spot), .int bad, .int lt, .int one, .int two, .int wh, .long hash])), (a1, .inl (G.2.1, 97, .inl (upd f 55 (f 55 + sumI (unT f) 8)))), (a2, .inl (G.2.1, 97, .inl th)), (a3, .inl (G.2.1, 582, .inl pa)), (a4, .inl (G.2.1, 97, .inl sn)), (a5, .inl (G.2.1, 60, .inl tx))] H := hP
    have hD : va_D A [(ob, .inr (6, [.ref a1, .ref a2, .ref a3, .int (nI n), .ref a4, .int kp, .ref a5, .int (nI len), .int thr, .int (nI spot), .int bad, .int lt, .int one, .int two, .int wh, .long hash])), (a1, .inl (G.2.1, 97, .inl (upd f 55 (f 55 + sumI (unT f) 8)))), (a2, .inl (G.2.1, 97, .inl th)), (a3, .inl (G.2.1, 582, .inl pa)), (a4, .inl (G.2.1, 97, .inl sn)), (a5, .inl (G.2.1, 60, .inl tx))] := hD
    refine lv_aload_n hx hb dX6_unloads_110 rfl (lv_at hl 2 rfl) ?_
    refine va_get (D := G.1) (ci := 6) (v := .ref a1) (C := RX6) (T := TX6) (N := 16) hx hb hts w_0 hown hE.1 hP 0 rfl rfl 0 (by decide) w_1 (fun _ h9 => h9) rfl dX6_unloads_111 ?_
    refine lv_bipush (v := nI 54) hx hb dX6_unloads_114 (by decide +kernel) ?_
    refine lv_dup2_11 hx hb dX6_unloads_116 rfl rfl ?_
    refine ialdN (k := 54) hx hb hE.1 hP 1 0 rfl rfl (by omega) (by decide) dX6_unloads_117 ?_
    refine tI (y := f 54) ((pk_un (by omega))) ?_
    refine lv_iload_n hx hb dX6_unloads_118 rfl (lv_at hl 1 rfl) ?_
    refine lv_iadd hx hb dX6_unloads_119 ?_
    refine iastN (k := 54) hx hb hE.1 hP hD hS 1 0 rfl rfl (by omega) (by decide) dX6_unloads_120 (fun H locs hP hD hS => ?_)
    have hP : va_P G.1 vwCl [(ob, .inr (6, [.ref a1, .ref a2, .ref a3, .int (nI n), .ref a4, .int kp, .ref a5, .int (nI len), .int thr, .int (nI spot), .int bad, .int lt, .int one, .int two, .int wh, .long hash])), (a1, .inl (G.2.1, 97, .inl (upd (upd f 55 (f 55 + sumI (unT f) 8)) 54 ((f 54) + (unC f))))), (a2, .inl (G.2.1, 97, .inl th)), (a3, .inl (G.2.1, 582, .inl pa)), (a4, .inl (G.2.1, 97, .inl sn)), (a5, .inl (G.2.1, 60, .inl tx))] H := hP
    have hD : va_D A [(ob, .inr (6, [.ref a1, .ref a2, .ref a3, .int (nI n), .ref a4, .int kp, .ref a5, .int (nI len), .int thr, .int (nI spot), .int bad, .int lt, .int one, .int two, .int wh, .long hash])), (a1, .inl (G.2.1, 97, .inl (upd (upd f 55 (f 55 + sumI (unT f) 8)) 54 ((f 54) + (unC f))))), (a2, .inl (G.2.1, 97, .inl th)), (a3, .inl (G.2.1, 582, .inl pa)), (a4, .inl (G.2.1, 97, .inl sn)), (a5, .inl (G.2.1, 60, .inl tx))] := hD
    refine lv_bipush (v := nI 79) hx hb dX6_unloads_121 (by decide +kernel) ?_
    refine lv_istore_n (lv' := [(2, .int (nI 79)), (1, .int (unC f)), (0, .ref ob)]) hx hb dX6_unloads_123 rfl hl (by decide) rfl (fun ls hl => ?_)
    refine loopH (σ := Nat) (n := 5) (pc1 := 124) (fun j => 97 - j) (fun j => 79 ≤ j ∧ j ≤ 97) (fun j => fun (H : Heap) (locs : List Loc) => va_P G.1 vwCl [(ob, .inr (6, [.ref a1, .ref a2, .ref a3, .int (nI n), .ref a4, .int kp, .ref a5, .int (nI len), .int thr, .int (nI spot), .int bad, .int lt, .int one, .int two, .int wh, .long hash])), (a1, .inl (G.2.1, 97, .inl (zrW (upd (upd f 55 (f 55 + sumI (unT f) 8)) 54 (f 54 + unC f)) j))), (a2, .inl (G.2.1, 97, .inl th)), (a3, .inl (G.2.1, 582, .inl pa)), (a4, .inl (G.2.1, 97, .inl sn)), (a5, .inl (G.2.1, 60, .inl tx))] H ∧ va_D A [(ob, .inr (6, [.ref a1, .ref a2, .ref a3, .int (nI n), .ref a4, .int kp, .ref a5, .int (nI len), .int thr, .int (nI spot), .int bad, .int lt, .int one, .int two, .int wh, .long hash])), (a1, .inl (G.2.1, 97, .inl (zrW (upd (upd f 55 (f 55 + sumI (unT f) 8)) 54 (f 54 + unC f)) j))), (a2, .inl (G.2.1, 97, .inl th)), (a3, .inl (G.2.1, 582, .inl pa)), (a4, .inl (G.2.1, 97, .inl sn)), (a5, .inl (G.2.1, 60, .inl tx))] ∧ va_S A s.heap H locs) (fun j => [(2, .int (nI j)), (1, .int (unC f)), (0, .ref ob)]) (fun j => []) ?_ (79) H _ _ ⟨by omega, by omega⟩ (by (try dsimp only); rw [zrW_0]; exact ⟨hP, hD, hS⟩) (lv_sub hl [0, 1, 2] rfl)
    rintro j H locs ls hI ⟨hP, hD, hS⟩ hl ih124
    have hl : lv_has ls 5 [(2, .int (nI j)), (1, .int (unC f)), (0, .ref ob)] := hl
    replace hI : 79 ≤ j ∧ j ≤ 97 := hI
    have hP : va_P G.1 vwCl [(ob, .inr (6, [.ref a1, .ref a2, .ref a3, .int (nI n), .ref a4, .int kp, .ref a5, .int (nI len), .int thr, .int (nI spot), .int bad, .int lt, .int one, .int two, .int wh, .long hash])), (a1, .inl (G.2.1, 97, .inl (zrW (upd (upd f 55 (f 55 + sumI (unT f) 8)) 54 (f 54 + unC f)) j))), (a2, .inl (G.2.1, 97, .inl th)), (a3, .inl (G.2.1, 582, .inl pa)), (a4, .inl (G.2.1, 97, .inl sn)), (a5, .inl (G.2.1, 60, .inl tx))] H := hP
    have hD : va_D A [(ob, .inr (6, [.ref a1, .ref a2, .ref a3, .int (nI n), .ref a4, .int kp, .ref a5, .int (nI len), .int thr, .int (nI spot), .int bad, .int lt, .int one, .int two, .int wh, .long hash])), (a1, .inl (G.2.1, 97, .inl (zrW (upd (upd f 55 (f 55 + sumI (unT f) 8)) 54 (f 54 + unC f)) j))), (a2, .inl (G.2.1, 97, .inl th)), (a3, .inl (G.2.1, 582, .inl pa)), (a4, .inl (G.2.1, 97, .inl sn)), (a5, .inl (G.2.1, 60, .inl tx))] := hD
    refine tS (st' := []) rfl ?_
    refine lv_iload_n hx hb dX6_unloads_124 rfl (lv_at hl 0 rfl) ?_
    refine lv_bipush (v := nI 97) hx hb dX6_unloads_125 (by decide +kernel) ?_
    refine icmp_geN (tgt := 143) hx hb (by omega) (by omega) dX6_unloads_127 (by decide) (fun c127 => ?_) (fun c127 => ?_)
    · skip
      refine lv_iload_n hx hb dX6_unloads_143 rfl (lv_at hl 1 rfl) ?_
      exact W.iret hx hb hr (fun t ht hW => ⟨rfl, by rw [ht]; exact (by rw [show j = 97 by omega] at hP hD; exact ⟨hP, hD⟩), hS.F ht⟩) hS.2.2 dX6_unloads_144
    · skip
      refine lv_aload_n hx hb dX6_unloads_130 rfl (lv_at hl 2 rfl) ?_
      refine va_get (D := G.1) (ci := 6) (v := .ref a1) (C := RX6) (T := TX6) (N := 16) hx hb hts w_0 hown hE.1 hP 0 rfl rfl 0 (by decide) w_1 (fun _ h9 => h9) rfl dX6_unloads_131 ?_
      refine lv_iload_n hx hb dX6_unloads_134 rfl (lv_at hl 0 rfl) ?_
      refine lv_iconst (v := nI 0) hx hb dX6_unloads_135 (by decide +kernel) ?_
      refine iastN (k := j) hx hb hE.1 hP hD hS 1 0 rfl rfl (by omega) (by decide) dX6_unloads_136 (fun H locs hP hD hS => ?_)
      have hP : va_P G.1 vwCl [(ob, .inr (6, [.ref a1, .ref a2, .ref a3, .int (nI n), .ref a4, .int kp, .ref a5, .int (nI len), .int thr, .int (nI spot), .int bad, .int lt, .int one, .int two, .int wh, .long hash])), (a1, .inl (G.2.1, 97, .inl (upd (zrW (upd (upd f 55 (f 55 + sumI (unT f) 8)) 54 (f 54 + unC f)) j) j (nI 0)))), (a2, .inl (G.2.1, 97, .inl th)), (a3, .inl (G.2.1, 582, .inl pa)), (a4, .inl (G.2.1, 97, .inl sn)), (a5, .inl (G.2.1, 60, .inl tx))] H := hP
      have hD : va_D A [(ob, .inr (6, [.ref a1, .ref a2, .ref a3, .int (nI n), .ref a4, .int kp, .ref a5, .int (nI len), .int thr, .int (nI spot), .int bad, .int lt, .int one, .int two, .int wh, .long hash])), (a1, .inl (G.2.1, 97, .inl (upd (zrW (upd (upd f 55 (f 55 + sumI (unT f) 8)) 54 (f 54 + unC f)) j) j (nI 0)))), (a2, .inl (G.2.1, 97, .inl th)), (a3, .inl (G.2.1, 582, .inl pa)), (a4, .inl (G.2.1, 97, .inl sn)), (a5, .inl (G.2.1, 60, .inl tx))] := hD
      refine lv_iinc (v := nI (j + 1)) (lv' := [(2, .int (nI (j + 1))), (1, .int (unC f)), (0, .ref ob)]) hx hb dX6_unloads_137 hl (k := 0) rfl (nI_inc1 _) (by decide) rfl (fun ls hl => ?_)
      refine lv_goto (tgt := 124) hx hb dX6_unloads_140 (by decide) ?_
      exact ih124 (j + 1) _ _ _ ⟨by omega, by omega⟩ (by (try dsimp only); rw [zrW_s hI.1] at hP hD; exact ⟨hP, hD, hS⟩) (lv_sub hl [0, 1, 2] rfl) (by (try dsimp only); omega)
  · skip
    obtain ⟨hn, hn4⟩ := hs.1 (i / 4) (by omega)
    refine lv_iload_n hx hb dX6_unloads_10 rfl (lv_at hl 0 rfl) ?_
    refine lv_iconst (v := nI 4) hx hb dX6_unloads_11 (by decide +kernel) ?_
    refine iremN hx hb (by omega) (by decide) (by decide) dX6_unloads_12 ?_
    refine lv_aload_n hx hb dX6_unloads_13 rfl (lv_at hl 2 rfl) ?_
    refine va_get (D := G.1) (ci := 6) (v := .ref a1) (C := RX6) (T := TX6) (N := 16) hx hb hts w_0 hown hE.1 hP 0 rfl rfl 0 (by decide) w_1 (fun _ h9 => h9) rfl dX6_unloads_14 ?_
    refine lv_iload_n hx hb dX6_unloads_17 rfl (lv_at hl 0 rfl) ?_
    refine lv_iconst (v := nI 4) hx hb dX6_unloads_18 (by decide +kernel) ?_
    refine idivN hx hb (by omega) (by decide) (by decide) dX6_unloads_19 ?_
    refine pcall (st1 := [.int ((upd f 55 (f 55 + sumI (unT f) i)) (79 + (9 * (i / 4)))), .int (nI (i % 4))]) (va_runS (As := [.ref a1, .int (nI (i / 4))]) (rest := [.int (nI (i % 4))]) ⟨hx, hb, hml, hown, hts⟩ (c_X6_onLane l G a1 (upd f 55 (f 55 + sumI (unT f) i)) (i / 4) (by omega)) (va_cwS 2 hts gX6_unloads_X6_onLane rfl rfl rfl (by decide +kernel) ⟨Nat.le_of_ble_eq_true rfl, Nat.le_of_ble_eq_true rfl⟩) (PC.preS hE (hP.sub [1] rfl)) rfl rfl hl.1 rfl (lv_room (Nat.le_of_ble_eq_true rfl)) dX6_unloads_20 ⟨Nat.zero_le _, Nat.zero_le _⟩) rfl ?_
    refine tI (y := nI (nn f (79 + (9 * (i / 4))))) (((pk_un (by omega)).trans hn)) ?_
    refine cutL (σ := Int32) (n := 5) (pc1 := 31) (fun r => r = b2 (unI f i = true)) (fun r => [(2, .int (nI i)), (1, .int acc), (0, .ref ob)]) (fun r => [.int r]) ?_ (fun J31 => ?_)
    · rintro r ls hI hl
      replace hI : r = b2 (unI f i = true) := hI
      subst hI
      have hl : lv_has ls 5 [(2, .int (nI i)), (1, .int acc), (0, .ref ob)] := hl
      refine tS (st' := [.int (b2 (unI f i = true))]) rfl ?_
      refine lv_istore_n (lv' := [(3, .int (b2 (unI f i = true))), (2, .int (nI i)), (1, .int acc), (0, .ref ob)]) hx hb dX6_unloads_31 rfl hl (by decide) rfl (fun ls hl => ?_)
      refine lv_iload_n hx hb dX6_unloads_32 rfl (lv_at hl 0 rfl) ?_
      refine cutL (σ := Int32) (n := 5) (pc1 := 65) (fun r => r = b2 (unF f i = true)) (fun r => [(3, .int (b2 (unI f i = true))), (2, .int (nI i)), (1, .int acc), (0, .ref ob)]) (fun r => [.int r]) ?_ (fun J65 => ?_)
      · rintro r ls hI hl
        replace hI : r = b2 (unF f i = true) := hI
        subst hI
        have hl : lv_has ls 5 [(3, .int (b2 (unI f i = true))), (2, .int (nI i)), (1, .int acc), (0, .ref ob)] := hl
        refine tS (st' := [.int (b2 (unF f i = true))]) rfl ?_
        refine lv_istore (lv' := [(4, .int (b2 (unF f i = true))), (3, .int (b2 (unI f i = true))), (2, .int (nI i)), (1, .int acc), (0, .ref ob)]) hx hb dX6_unloads_65 hl (by decide) rfl (fun ls hl => ?_)
        refine lv_iload_n hx hb dX6_unloads_67 rfl (lv_at hl 3 rfl) ?_
        refine lv_iload hx hb dX6_unloads_68 (lv_at hl 0 rfl) ?_
        refine cutL (σ := Int32) (n := 5) (pc1 := 78) (fun r => r = b2 (unF f i = true)) (fun r => [(4, .int (b2 (unF f i = true))), (3, .int (b2 (unI f i = true))), (2, .int (nI i)), (1, .int acc), (0, .ref ob)]) (fun r => [.int r, .int acc]) ?_ (fun J78 => ?_)
        · rintro r ls hI hl
          replace hI : r = b2 (unF f i = true) := hI
          subst hI
          have hl : lv_has ls 5 [(4, .int (b2 (unF f i = true))), (3, .int (b2 (unI f i = true))), (2, .int (nI i)), (1, .int acc), (0, .ref ob)] := hl
          refine tS (st' := [.int (b2 (unF f i = true)), .int acc]) rfl ?_
          refine lv_iadd hx hb dX6_unloads_78 ?_
          refine lv_istore_n (lv' := [(1, .int (acc + (b2 (unF f i = true)))), (4, .int (b2 (unF f i = true))), (3, .int (b2 (unI f i = true))), (2, .int (nI i)), (0, .ref ob)]) hx hb dX6_unloads_79 rfl hl (by decide) rfl (fun ls hl => ?_)
          refine lv_aload_n hx hb dX6_unloads_80 rfl (lv_at hl 4 rfl) ?_
          refine va_get (D := G.1) (ci := 6) (v := .ref a1) (C := RX6) (T := TX6) (N := 16) hx hb hts w_0 hown hE.1 hP 0 rfl rfl 0 (by decide) w_1 (fun _ h9 => h9) rfl dX6_unloads_81 ?_
          refine lv_bipush (v := nI 55) hx hb dX6_unloads_84 (by decide +kernel) ?_
          refine lv_dup2_11 hx hb dX6_unloads_86 rfl rfl ?_
          refine ialdN (k := 55) hx hb hE.1 hP 1 0 rfl rfl (by omega) (by decide) dX6_unloads_87 ?_
          refine tI (y := f 55 + sumI (unT f) i) (pk_us) ?_
          refine cutL (σ := Int32) (n := 5) (pc1 := 102) (fun r => r = unT f i) (fun r => [(1, .int (acc + (b2 (unF f i = true)))), (4, .int (b2 (unF f i = true))), (3, .int (b2 (unI f i = true))), (2, .int (nI i)), (0, .ref ob)]) (fun r => [.int r, .int (f 55 + sumI (unT f) i), .int (nI 55), .ref a1]) ?_ (fun J102 => ?_)
          · rintro r ls hI hl
            replace hI : r = unT f i := hI
            subst hI
            have hl : lv_has ls 5 [(1, .int (acc + (b2 (unF f i = true)))), (4, .int (b2 (unF f i = true))), (3, .int (b2 (unI f i = true))), (2, .int (nI i)), (0, .ref ob)] := hl
            refine tS (st' := [.int (unT f i), .int (f 55 + sumI (unT f) i), .int (nI 55), .ref a1]) rfl ?_
            refine lv_iadd hx hb dX6_unloads_102 ?_
            refine iastN (k := 55) hx hb hE.1 hP hD hS 1 0 rfl rfl (by omega) (by decide) dX6_unloads_103 (fun H locs hP hD hS => ?_)
            have hP : va_P G.1 vwCl [(ob, .inr (6, [.ref a1, .ref a2, .ref a3, .int (nI n), .ref a4, .int kp, .ref a5, .int (nI len), .int thr, .int (nI spot), .int bad, .int lt, .int one, .int two, .int wh, .long hash])), (a1, .inl (G.2.1, 97, .inl (upd (upd f 55 (f 55 + sumI (unT f) i)) 55 ((f 55 + sumI (unT f) i) + (unT f i))))), (a2, .inl (G.2.1, 97, .inl th)), (a3, .inl (G.2.1, 582, .inl pa)), (a4, .inl (G.2.1, 97, .inl sn)), (a5, .inl (G.2.1, 60, .inl tx))] H := hP
            have hD : va_D A [(ob, .inr (6, [.ref a1, .ref a2, .ref a3, .int (nI n), .ref a4, .int kp, .ref a5, .int (nI len), .int thr, .int (nI spot), .int bad, .int lt, .int one, .int two, .int wh, .long hash])), (a1, .inl (G.2.1, 97, .inl (upd (upd f 55 (f 55 + sumI (unT f) i)) 55 ((f 55 + sumI (unT f) i) + (unT f i))))), (a2, .inl (G.2.1, 97, .inl th)), (a3, .inl (G.2.1, 582, .inl pa)), (a4, .inl (G.2.1, 97, .inl sn)), (a5, .inl (G.2.1, 60, .inl tx))] := hD
            refine lv_iinc (v := nI (i + 1)) (lv' := [(2, .int (nI (i + 1))), (1, .int (acc + (b2 (unF f i = true)))), (4, .int (b2 (unF f i = true))), (3, .int (b2 (unI f i = true))), (0, .ref ob)]) hx hb dX6_unloads_104 hl (k := 3) rfl (nI_inc1 _) (by decide) rfl (fun ls hl => ?_)
            refine lv_goto (tgt := 4) hx hb dX6_unloads_107 (by decide) ?_
            exact ih4 ((i + 1), (acc + (b2 (unF f i = true)))) _ _ _ ⟨by omega, by rw [ha]; rfl⟩ (by (try dsimp only); rw [upd_same, Int32.add_assoc] at hP hD; exact ⟨hP, hD, hS⟩) (lv_sub hl [0, 1, 4] rfl) (by (try dsimp only); omega)
          · skip
            refine lv_iload_n hx hb dX6_unloads_88 rfl (lv_at hl 2 rfl) ?_
            refine lv_if_eq (tgt := 101) hx hb dX6_unloads_89 (by decide) (fun c89 => ?_) (fun c89 => ?_)
            · skip
              refine lv_iconst (v := nI 0) hx hb dX6_unloads_101 (by decide +kernel) ?_
              exact J102 (nI 0) _ (by (try simp only [i_lt, Classical.not_not, b2_0, b2_1] at c7); (try simp only [i_lt, Classical.not_not, b2_0, b2_1] at c89); simp [b2, unT, c7, c89]) (lv_sub hl [0, 1, 2, 3, 4] rfl)
            · skip
              refine lv_iload hx hb dX6_unloads_92 (lv_at hl 1 rfl) ?_
              refine lv_if_ne (tgt := 101) hx hb dX6_unloads_94 (by decide) (fun c94 => ?_) (fun c94 => ?_)
              · skip
                refine lv_iconst (v := nI 0) hx hb dX6_unloads_101 (by decide +kernel) ?_
                exact J102 (nI 0) _ (by (try simp only [i_lt, Classical.not_not, b2_0, b2_1] at c7); (try simp only [i_lt, Classical.not_not, b2_0, b2_1] at c89); (try simp only [i_lt, Classical.not_not, b2_0, b2_1] at c94); simp [b2, unT, c7, c89, c94]) (lv_sub hl [0, 1, 2, 3, 4] rfl)
              · skip
                refine lv_iconst (v := nI 1) hx hb dX6_unloads_97 (by decide +kernel) ?_
                refine lv_goto (tgt := 102) hx hb dX6_unloads_98 (by decide) ?_
                exact J102 (nI 1) _ (by (try simp only [i_lt, Classical.not_not, b2_0, b2_1] at c7); (try simp only [i_lt, Classical.not_not, b2_0, b2_1] at c89); (try simp only [i_lt, Classical.not_not, b2_0, b2_1] at c94); simp [b2, unT, c7, c89, c94]) (lv_sub hl [0, 1, 2, 3, 4] rfl)
        · skip
          refine lv_if_eq (tgt := 77) hx hb dX6_unloads_70 (by decide) (fun c70 => ?_) (fun c70 => ?_)
          · skip
            refine lv_iconst (v := nI 0) hx hb dX6_unloads_77 (by decide +kernel) ?_
            exact J78 (nI 0) _ (by (try simp only [i_lt, Classical.not_not, b2_0, b2_1] at c7); (try simp only [i_lt, Classical.not_not, b2_0, b2_1] at c70); simp [b2, c7, c70]) (lv_sub hl [0, 1, 2, 3, 4] rfl)
          · skip
            refine lv_iconst (v := nI 1) hx hb dX6_unloads_73 (by decide +kernel) ?_
            refine lv_goto (tgt := 78) hx hb dX6_unloads_74 (by decide) ?_
            exact J78 (nI 1) _ (by (try simp only [i_lt, Classical.not_not, b2_0, b2_1] at c7); (try simp only [i_lt, Classical.not_not, b2_0, b2_1] at c70); simp [b2, c7, c70]) (lv_sub hl [0, 1, 2, 3, 4] rfl)
      · skip
        refine lv_if_eq (tgt := 64) hx hb dX6_unloads_33 (by decide) (fun c33 => ?_) (fun c33 => ?_)
        · skip
          refine lv_iconst (v := nI 0) hx hb dX6_unloads_64 (by decide +kernel) ?_
          exact J65 (nI 0) _ (by (try simp only [i_lt, Classical.not_not, b2_0, b2_1] at c7); (try simp only [i_lt, Classical.not_not, b2_0, b2_1] at c33); simp [b2, unF, c7, c33]) (lv_sub hl [0, 1, 2, 3] rfl)
        · skip
          refine lv_aload_n hx hb dX6_unloads_36 rfl (lv_at hl 3 rfl) ?_
          refine va_get (D := G.1) (ci := 6) (v := .ref a1) (C := RX6) (T := TX6) (N := 16) hx hb hts w_0 hown hE.1 hP 0 rfl rfl 0 (by decide) w_1 (fun _ h9 => h9) rfl dX6_unloads_37 ?_
          refine lv_iload_n hx hb dX6_unloads_40 rfl (lv_at hl 1 rfl) ?_
          refine lv_iconst (v := nI 4) hx hb dX6_unloads_41 (by decide +kernel) ?_
          refine idivN hx hb (by omega) (by decide) (by decide) dX6_unloads_42 ?_
          refine lv_iload_n hx hb dX6_unloads_43 rfl (lv_at hl 1 rfl) ?_
          refine lv_iconst (v := nI 4) hx hb dX6_unloads_44 (by decide +kernel) ?_
          refine iremN hx hb (by omega) (by decide) (by decide) dX6_unloads_45 ?_
          refine lv_iconst (v := nI 1) hx hb dX6_unloads_46 (by decide +kernel) ?_
          refine pcall (st1 := [.int ((upd f 55 (f 55 + sumI (unT f) i)) ((((79 + (9 * (i / 4))) + 1) + (2 * (i % 4))) + 1))]) (va_runS (As := [.ref a1, .int (nI (i / 4)), .int (nI (i % 4)), .int (nI 1)]) (rest := []) ⟨hx, hb, hml, hown, hts⟩ (c_X6_ofDeck l G a1 (upd f 55 (f 55 + sumI (unT f) i)) (i / 4) (i % 4) 1 (by omega) (by omega) (by omega)) (va_cwS 4 hts gX6_unloads_X6_ofDeck rfl rfl rfl (by decide +kernel) ⟨Nat.le_of_ble_eq_true rfl, Nat.le_of_ble_eq_true rfl⟩) (PC.preS hE (hP.sub [1] rfl)) rfl rfl hl.1 rfl (lv_room (Nat.le_of_ble_eq_true rfl)) dX6_unloads_47 ⟨Nat.zero_le _, Nat.zero_le _⟩) rfl ?_
          refine tI (y := f ((((79 + (9 * (i / 4))) + 1) + (2 * (i % 4))) + 1)) ((pk_un (by omega))) ?_
          refine lv_aload_n hx hb dX6_unloads_50 rfl (lv_at hl 3 rfl) ?_
          refine va_get (D := G.1) (ci := 6) (v := .ref a1) (C := RX6) (T := TX6) (N := 16) hx hb hts w_0 hown hE.1 hP 0 rfl rfl 0 (by decide) w_1 (fun _ h9 => h9) rfl dX6_unloads_51 ?_
          refine lv_bipush (v := nI 51) hx hb dX6_unloads_54 (by decide +kernel) ?_
          refine ialdN (k := 51) hx hb hE.1 hP 1 0 rfl rfl (by omega) (by decide) dX6_unloads_56 ?_
          refine tI (y := f 51) ((pk_un (by omega))) ?_
          refine lv_icmp_eq (tgt := 64) hx hb dX6_unloads_57 (by decide) (fun c57 => ?_) (fun c57 => ?_)
          · skip
            refine lv_iconst (v := nI 0) hx hb dX6_unloads_64 (by decide +kernel) ?_
            exact J65 (nI 0) _ (by (try simp only [i_lt, Classical.not_not, b2_0, b2_1] at c7); (try simp only [i_lt, Classical.not_not, b2_0, b2_1] at c33); (try simp only [i_lt, Classical.not_not, b2_0, b2_1] at c57); simp [b2, unF, c7, c33, c57]) (lv_sub hl [0, 1, 2, 3] rfl)
          · skip
            refine lv_iconst (v := nI 1) hx hb dX6_unloads_60 (by decide +kernel) ?_
            refine lv_goto (tgt := 65) hx hb dX6_unloads_61 (by decide) ?_
            exact J65 (nI 1) _ (by (try simp only [i_lt, Classical.not_not, b2_0, b2_1] at c7); (try simp only [i_lt, Classical.not_not, b2_0, b2_1] at c33); (try simp only [i_lt, Classical.not_not, b2_0, b2_1] at c57); simp [b2, unF, c7, c33, c57]) (lv_sub hl [0, 1, 2, 3] rfl)
    · skip
      refine icmp_geN (tgt := 30) hx hb (by omega) (by omega) dX6_unloads_23 (by decide) (fun c23 => ?_) (fun c23 => ?_)
      · skip
        refine lv_iconst (v := nI 0) hx hb dX6_unloads_30 (by decide +kernel) ?_
        exact J31 (nI 0) _ (by simp only [b2, unI, decide_eq_true_eq]; (repeat' split) <;> first | rfl | omega) (lv_sub hl [0, 1, 2] rfl)
      · skip
        refine lv_iconst (v := nI 1) hx hb dX6_unloads_26 (by decide +kernel) ?_
        refine lv_goto (tgt := 31) hx hb dX6_unloads_27 (by decide) ?_
        exact J31 (nI 1) _ (by simp only [b2, unI, decide_eq_true_eq]; (repeat' split) <;> first | rfl | omega) (lv_sub hl [0, 1, 2] rfl)

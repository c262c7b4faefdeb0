set_option maxHeartbeats 4000000 in
set_option maxRecDepth 100000 in
theorem c_X5_firstError (l : Launch) (G : eG) (fe ta sa ha : Nat) (hsn : Int32) (an : Nat → Nat) (oa co : Nat) (len rt : Nat) (en : Option Nat) (tx : Nat → Int32) : Met l yX5_firstError wsX5_firstError ({ frames := 1, cells := 0, slots := 0, locals := 20 }) (PC [.ref fe] G (fun H => va_P G.1 vwCl ([(fe, .inr (5, [.ref (an 0), .ref ta, .ref sa, .ref ha, .ref oa, .int hsn]))] ++ ([(oa, .inr (2, [.ref co, .int (nI len), .int (nI rt), .int (ov en)])), (co, .inl (G.2.1, 60, .inl tx))] ++ ([]))) H)) (PQ (some (.int (nI rt)))) 0 0 noA := by
  refine ofB (cc := cX5_firstError) (maxL := 1) (ret := (some .int)) (by decide) rfl (Nat.le_of_ble_eq_true rfl) ?_
  intro p e s m below meth c hx hb hr hlocks hml hown hin hts hE hI ls hl
  replace hown : s.vm.findClass RX5 = some m.cls := hown
  have hl : lv_has ls 1 [(0, .ref fe)] := hl
  have hP : va_P G.1 vwCl ([(fe, .inr (5, [.ref (an 0), .ref ta, .ref sa, .ref ha, .ref oa, .int hsn]))] ++ ([(oa, .inr (2, [.ref co, .int (nI len), .int (nI rt), .int (ov en)])), (co, .inl (G.2.1, 60, .inl tx))] ++ ([]))) s.heap := hI
  have w_0 : ∀ w ∈ u_ws RX5 TX5 6, w ∈ wsX5_firstError := by decide +kernel
  have w_1 := hts (.fieldLink RX5 32 "CableFerry" "orders" "LCableFerry$Orders;") (by decide +kernel)
  skip
  refine lv_aload_n hx hb dX5_firstError_0 rfl (lv_at hl 0 rfl) ?_
  refine va_get (D := G.1) (ci := 5) (v := .ref oa) (C := RX5) (T := TX5) (N := 6) hx hb hts w_0 hown hE.1 hP 0 rfl rfl 4 (by decide) w_1 (fun _ h9 => h9) rfl dX5_firstError_1 ?_
  replace hP : va_P G.1 vwCl ([(oa, .inr (2, [.ref co, .int (nI len), .int (nI rt), .int (ov en)])), (co, .inl (G.2.1, 60, .inl tx))] ++ ([(fe, .inr (5, [.ref (an 0), .ref ta, .ref sa, .ref ha, .ref oa, .int hsn]))] ++ ([]))) s.heap := P_perm br1 hP
  refine pcall (st1 := [.int (nI rt)]) (va_runV (As := []) (rest := []) ⟨hx, hb, hml, hown, hts⟩ (c_X2_firstWrong l G oa co len rt en tx) (cwV 0 hts gX5_firstError_X2_firstWrong rfl rfl rfl (by decide +kernel) ⟨Nat.le_of_ble_eq_true rfl, Nat.le_of_ble_eq_true rfl⟩) (PC.preV hE (va_recv hE.1 hP (ci := 2) (q0 := 0) rfl rfl) (hP.sub [0, 1] rfl)) rfl rfl hl.1 rfl (lv_room (Nat.le_of_ble_eq_true rfl)) dX5_firstError_4 ⟨Nat.zero_le _, Nat.zero_le _⟩) rfl ?_
  exact W.iret hx hb hr (fun t ht hW => ⟨rfl, ht⟩) (fun _ h => nomatch h) dX5_firstError_7
set_option maxHeartbeats 4000000 in
set_option maxRecDepth 100000 in
theorem c_X5_clearBuffer (l : Launch) (G : eG) (fe ta sa ha : Nat) (hsn : Int32) (an : Nat → Nat) (oa co : Nat) (len rt : Nat) (en : Option Nat) (tx : Nat → Int32) : Met l yX5_clearBuffer wsX5_clearBuffer ({ frames := 1, cells := 0, slots := 0, locals := 20 }) (PC [.ref fe] G (fun H => va_P G.1 vwCl ([(fe, .inr (5, [.ref (an 0), .ref ta, .ref sa, .ref ha, .ref oa, .int hsn]))] ++ ([(oa, .inr (2, [.ref co, .int (nI len), .int (nI rt), .int (ov en)])), (co, .inl (G.2.1, 60, .inl tx))] ++ ([]))) H ∧ va_D (fun _ => True) ([(fe, .inr (5, [.ref (an 0), .ref ta, .ref sa, .ref ha, .ref oa, .int hsn]))] ++ ([(oa, .inr (2, [.ref co, .int (nI len), .int (nI rt), .int (ov en)])), (co, .inl (G.2.1, 60, .inl tx))] ++ ([]))))) (MV (some (.int (nI len))) (fun H => va_P G.1 vwCl ([(fe, .inr (5, [.ref (an 0), .ref ta, .ref sa, .ref ha, .ref oa, .int hsn]))] ++ ([(oa, .inr (2, [.ref co, .int (nI 0), .int (nI 0), .int (ov (some 0))])), (co, .inl (G.2.1, 60, .inl tx))] ++ ([]))) H ∧ va_D (inW ([(fe, .inr (5, [.ref (an 0), .ref ta, .ref sa, .ref ha, .ref oa, .int hsn]))] ++ ([(oa, .inr (2, [.ref co, .int (nI len), .int (nI rt), .int (ov en)])), (co, .inl (G.2.1, 60, .inl tx))] ++ ([])))) ([(fe, .inr (5, [.ref (an 0), .ref ta, .ref sa, .ref ha, .ref oa, .int hsn]))] ++ ([(oa, .inr (2, [.ref co, .int (nI 0), .int (nI 0), .int (ov (some 0))])), (co, .inl (G.2.1, 60, .inl tx))] ++ ([])))) (inW ([(fe, .inr (5, [.ref (an 0), .ref ta, .ref sa, .ref ha, .ref oa, .int hsn]))] ++ ([(oa, .inr (2, [.ref co, .int (nI len), .int (nI rt), .int (ov en)])), (co, .inl (G.2.1, 60, .inl tx))] ++ ([]))))) 0 0 (inW ([(fe, .inr (5, [.ref (an 0), .ref ta, .ref sa, .ref ha, .ref oa, .int hsn]))] ++ ([(oa, .inr (2, [.ref co, .int (nI len), .int (nI rt), .int (ov en)])), (co, .inl (G.2.1, 60, .inl tx))] ++ ([])))) := by
  refine ofB (cc := cX5_clearBuffer) (maxL := 2) (ret := (some .int)) (by decide) rfl (Nat.le_of_ble_eq_true rfl) ?_
  intro p e s m below meth c hx hb hr hlocks hml hown hin hts hE hI ls hl
  replace hown : s.vm.findClass RX5 = some m.cls := hown
  have hl : lv_has ls 2 [(0, .ref fe)] := hl
  obtain ⟨hP, hD0⟩ := hI
  have hD : va_D (inW ([(fe, .inr (5, [.ref (an 0), .ref ta, .ref sa, .ref ha, .ref oa, .int hsn]))] ++ ([(oa, .inr (2, [.ref co, .int (nI len), .int (nI rt), .int (ov en)])), (co, .inl (G.2.1, 60, .inl tx))] ++ ([])))) ([(fe, .inr (5, [.ref (an 0), .ref ta, .ref sa, .ref ha, .ref oa, .int hsn]))] ++ ([(oa, .inr (2, [.ref co, .int (nI len), .int (nI rt), .int (ov en)])), (co, .inl (G.2.1, 60, .inl tx))] ++ ([]))) := D_self hD0
  obtain ⟨A, hAe⟩ : ∃ A, A = inW ([(fe, .inr (5, [.ref (an 0), .ref ta, .ref sa, .ref ha, .ref oa, .int hsn]))] ++ ([(oa, .inr (2, [.ref co, .int (nI len), .int (nI rt), .int (ov en)])), (co, .inl (G.2.1, 60, .inl tx))] ++ ([]))) := ⟨_, rfl⟩
  rw [← hAe] at hD ⊢
  have hS : va_S A s.heap s.heap [] := va_S.rf
  obtain ⟨H, hHe⟩ : ∃ H, H = s.heap := ⟨_, rfl⟩
  obtain ⟨locs, hle⟩ : ∃ q : List Loc, q = [] := ⟨_, rfl⟩
  rw [← hle] at hS ⊢
  have hP : va_P G.1 vwCl ([(fe, .inr (5, [.ref (an 0), .ref ta, .ref sa, .ref ha, .ref oa, .int hsn]))] ++ ([(oa, .inr (2, [.ref co, .int (nI len), .int (nI rt), .int (ov en)])), (co, .inl (G.2.1, 60, .inl tx))] ++ ([]))) H := by rw [hHe]; exact hP
  replace hS : va_S A s.heap H locs := by rw [hHe]; exact hS
  refine tH hHe ?_
  have w_0 : ∀ w ∈ u_ws RX5 TX5 6, w ∈ wsX5_clearBuffer := by decide +kernel
  have w_1 := hts (.fieldLink RX5 32 "CableFerry" "orders" "LCableFerry$Orders;") (by decide +kernel)
  skip
  refine lv_aload_n hx hb dX5_clearBuffer_0 rfl (lv_at hl 0 rfl) ?_
  refine va_get (D := G.1) (ci := 5) (v := .ref oa) (C := RX5) (T := TX5) (N := 6) hx hb hts w_0 hown hE.1 hP 0 rfl rfl 4 (by decide) w_1 (fun _ h9 => h9) rfl dX5_clearBuffer_1 ?_
  replace hP : va_P G.1 vwCl ([(oa, .inr (2, [.ref co, .int (nI len), .int (nI rt), .int (ov en)])), (co, .inl (G.2.1, 60, .inl tx))] ++ ([(fe, .inr (5, [.ref (an 0), .ref ta, .ref sa, .ref ha, .ref oa, .int hsn]))] ++ ([]))) H := P_perm br1 hP
  replace hD : va_D A ([(oa, .inr (2, [.ref co, .int (nI len), .int (nI rt), .int (ov en)])), (co, .inl (G.2.1, 60, .inl tx))] ++ ([(fe, .inr (5, [.ref (an 0), .ref ta, .ref sa, .ref ha, .ref oa, .int hsn]))] ++ ([]))) := D_perm br1 hD
  refine pcall (st1 := [.int (nI len)]) (va_runV (As := []) (rest := []) ⟨hx, hb, hml, hown, hts⟩ (c_X2_length l G oa co len rt en tx) (cwV 0 hts gX5_clearBuffer_X2_length rfl rfl rfl (by decide +kernel) ⟨Nat.le_of_ble_eq_true rfl, Nat.le_of_ble_eq_true rfl⟩) (PC.preV hE (va_recv hE.1 hP (ci := 2) (q0 := 0) rfl rfl) (hP.sub [0, 1] rfl)) rfl rfl hl.1 rfl (lv_room (Nat.le_of_ble_eq_true rfl)) dX5_clearBuffer_4 ⟨Nat.zero_le _, Nat.zero_le _⟩) rfl ?_
  refine lv_istore_n (lv' := [(1, .int (nI len)), (0, .ref fe)]) hx hb dX5_clearBuffer_7 rfl hl (by decide) rfl (fun ls hl => ?_)
  refine lv_aload_n hx hb dX5_clearBuffer_8 rfl (lv_at hl 1 rfl) ?_
  replace hP : va_P G.1 vwCl ([(fe, .inr (5, [.ref (an 0), .ref ta, .ref sa, .ref ha, .ref oa, .int hsn]))] ++ ([(oa, .inr (2, [.ref co, .int (nI len), .int (nI rt), .int (ov en)])), (co, .inl (G.2.1, 60, .inl tx))] ++ ([]))) H := P_perm br1 hP
  replace hD : va_D A ([(fe, .inr (5, [.ref (an 0), .ref ta, .ref sa, .ref ha, .ref oa, .int hsn]))] ++ ([(oa, .inr (2, [.ref co, .int (nI len), .int (nI rt), .int (ov en)])), (co, .inl (G.2.1, 60, .inl tx))] ++ ([]))) := D_perm br1 hD
  refine va_get (D := G.1) (ci := 5) (v := .ref oa) (C := RX5) (T := TX5) (N := 6) hx hb hts w_0 hown hE.1 hP 0 rfl rfl 4 (by decide) w_1 (fun _ h9 => h9) rfl dX5_clearBuffer_9 ?_
  replace hP : va_P G.1 vwCl ([(oa, .inr (2, [.ref co, .int (nI len), .int (nI rt), .int (ov en)])), (co, .inl (G.2.1, 60, .inl tx))] ++ ([(fe, .inr (5, [.ref (an 0), .ref ta, .ref sa, .ref ha, .ref oa, .int hsn]))] ++ ([]))) H := P_perm br1 hP
  replace hD : va_D A ([(oa, .inr (2, [.ref co, .int (nI len), .int (nI rt), .int (ov en)])), (co, .inl (G.2.1, 60, .inl tx))] ++ ([(fe, .inr (5, [.ref (an 0), .ref ta, .ref sa, .ref ha, .ref oa, .int hsn]))] ++ ([]))) := D_perm br1 hD
  have hPc := P_pre hP
  have hDc := D_pre hD
  refine mcall (st1 := []) (va_runV (As := []) (rest := []) ⟨hx, hb, hml, hown, hts⟩ (c_X2_clear l G oa co len rt en tx) (cwV 0 hts gX5_clearBuffer_X2_clear rfl rfl rfl (by decide +kernel) ⟨Nat.le_of_ble_eq_true rfl, Nat.le_of_ble_eq_true rfl⟩) (PC.preV hE (va_recv hE.1 hP (ci := 2) (q0 := 0) rfl rfl) ⟨hPc, hDc.weaken (fun _ _ _ _ => trivial)⟩) rfl rfl hl.1 rfl (lv_room (Nat.le_of_ble_eq_true rfl)) dX5_clearBuffer_12 ⟨Nat.zero_le _, Nat.zero_le _⟩) hS (fun q _ h => inW_D hDc q h) (fun q h => inW_D hDc q h) rfl (fun H1 locs1 hB hz1 hk1 hS => ?_)
  obtain ⟨hP1, hD1⟩ := hB
  obtain ⟨hP, hD⟩ := jnF (w1 := ([(oa, .inr (2, [.ref co, .int (nI 0), .int (nI 0), .int (ov (some 0))])), (co, .inl (G.2.1, 60, .inl tx))])) hP hD hk1 hP1 hD1
  generalize H1 = H at hP hS ⊢
  have hP : va_P G.1 vwCl ([(oa, .inr (2, [.ref co, .int (nI 0), .int (nI 0), .int (ov (some 0))])), (co, .inl (G.2.1, 60, .inl tx))] ++ ([(fe, .inr (5, [.ref (an 0), .ref ta, .ref sa, .ref ha, .ref oa, .int hsn]))] ++ ([]))) H := hP
  have hD : va_D A ([(oa, .inr (2, [.ref co, .int (nI 0), .int (nI 0), .int (ov (some 0))])), (co, .inl (G.2.1, 60, .inl tx))] ++ ([(fe, .inr (5, [.ref (an 0), .ref ta, .ref sa, .ref ha, .ref oa, .int hsn]))] ++ ([]))) := hD
  replace hP : va_P G.1 vwCl ([(fe, .inr (5, [.ref (an 0), .ref ta, .ref sa, .ref ha, .ref oa, .int hsn]))] ++ ([(oa, .inr (2, [.ref co, .int (nI 0), .int (nI 0), .int (ov (some 0))])), (co, .inl (G.2.1, 60, .inl tx))] ++ ([]))) H := P_perm br1 hP
  replace hD : va_D A ([(fe, .inr (5, [.ref (an 0), .ref ta, .ref sa, .ref ha, .ref oa, .int hsn]))] ++ ([(oa, .inr (2, [.ref co, .int (nI 0), .int (nI 0), .int (ov (some 0))])), (co, .inl (G.2.1, 60, .inl tx))] ++ ([]))) := D_perm br1 hD
  refine lv_iload_n hx hb dX5_clearBuffer_15 rfl (lv_at hl 0 rfl) ?_
  exact W.iret hx hb hr (fun t ht hW => ⟨rfl, by rw [ht]; exact ⟨hP, hD⟩, hS.F ht⟩) hS.2.2 dX5_clearBuffer_16
set_option maxHeartbeats 4000000 in
set_option maxRecDepth 100000 in
theorem c_X5_why (l : Launch) (G : eG) (fe ta sa ha oa : Nat) (hsn : Int32) (an : Nat → Nat) (f : Nat → Int32) (v0 v1 : Int32) (w : Nat → Nat → Int32) (hs : Shp f) : Met l yX5_why wsX5_why ({ frames := 4, cells := 0, slots := 0, locals := 93 }) (PC [.ref fe] G (fun H => va_P G.1 vwCl ([(fe, .inr (5, [.ref (an 0), .ref ta, .ref sa, .ref ha, .ref oa, .int hsn]))] ++ (cST G an f v0 v1 w ++ ([]))) H)) (PQ (some (.int (fRsn f)))) 0 0 noA := by
  refine ofB (cc := cX5_why) (maxL := 1) (ret := (some .int)) (by decide) rfl (Nat.le_of_ble_eq_true rfl) ?_
  intro p e s m below meth c hx hb hr hlocks hml hown hin hts hE hI ls hl
  replace hown : s.vm.findClass RX5 = some m.cls := hown
  have hl : lv_has ls 1 [(0, .ref fe)] := hl
  have hP : va_P G.1 vwCl ([(fe, .inr (5, [.ref (an 0), .ref ta, .ref sa, .ref ha, .ref oa, .int hsn]))] ++ (cST G an f v0 v1 w ++ ([]))) s.heap := hI
  have w_0 : ∀ w ∈ u_ws RX5 TX5 6, w ∈ wsX5_why := by decide +kernel
  have w_1 := hts (.fieldLink RX5 10 "CableFerry" "now" "LCableFerry$State;") (by decide +kernel)
  skip
  refine lv_aload_n hx hb dX5_why_0 rfl (lv_at hl 0 rfl) ?_
  refine va_get (D := G.1) (ci := 5) (v := .ref (an 0)) (C := RX5) (T := TX5) (N := 6) hx hb hts w_0 hown hE.1 hP 0 rfl rfl 0 (by decide) w_1 (fun _ h9 => h9) rfl dX5_why_1 ?_
  replace hP : va_P G.1 vwCl (cST G an f v0 v1 w ++ ([(fe, .inr (5, [.ref (an 0), .ref ta, .ref sa, .ref ha, .ref oa, .int hsn]))] ++ ([]))) s.heap := P_perm br1 hP
  refine pcall (st1 := [.int (fRsn f)]) (va_runV (As := []) (rest := []) ⟨hx, hb, hml, hown, hts⟩ (c_X3_reason l G (an 0) (an 1) (an 2) (an 3) (an 6) (an 9) (an 10) (an 11) (an 12) (an 13) (an 14) (an 15) (an 16) f hs) (cwV 0 hts gX5_why_X3_reason rfl rfl rfl (by decide +kernel) ⟨Nat.le_of_ble_eq_true rfl, Nat.le_of_ble_eq_true rfl⟩) (PC.preV hE (va_recv hE.1 hP (ci := 3) (q0 := 0) rfl rfl) (hP.sub [0, 1, 2, 9, 12, 15, 16] rfl)) rfl rfl hl.1 rfl (lv_room (Nat.le_of_ble_eq_true rfl)) dX5_why_4 ⟨Nat.zero_le _, Nat.zero_le _⟩) rfl ?_
  exact W.iret hx hb hr (fun t ht hW => ⟨rfl, ht⟩) (fun _ h => nomatch h) dX5_why_7

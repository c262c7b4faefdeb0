set_option maxHeartbeats 4000000 in
set_option maxRecDepth 100000 in
theorem c_X6_in (l : Launch) (G : eG) (v lo hi : Int32) : Met l yX6_in wsX6_in ({ frames := 0, cells := 0, slots := 0, locals := 0 }) (PC [.int v, .int lo, .int hi] G (fun H => va_P G.1 vwCl [] H)) (PQ (some (.int (b2 (lo ≤ v ∧ v ≤ hi))))) 0 0 noA := by
  refine ofB (cc := cX6_in) (maxL := 3) (ret := (some .boolean)) (by decide) rfl (Nat.le_of_ble_eq_true rfl) ?_
  intro p e s m below meth c hx hb hr hlocks hml hown hin hts hE hI ls hl
  replace hown : s.vm.findClass RX6 = some m.cls := hown
  have hl : lv_has ls 3 [(0, .int v), (1, .int lo), (2, .int hi)] := hl
  have hP : va_P G.1 vwCl [] s.heap := hI
  skip
  refine lv_iload_n hx hb dX6_in_0 rfl (lv_at hl 0 rfl) ?_
  refine lv_iload_n hx hb dX6_in_1 rfl (lv_at hl 1 rfl) ?_
  refine cutL (σ := Int32) (n := 3) (pc1 := 15) (fun r => r = b2 (lo ≤ v ∧ v ≤ hi)) (fun r => [(0, .int v), (1, .int lo), (2, .int hi)]) (fun r => [.int r]) ?_ (fun J15 => ?_)
  · rintro r ls hI hl
    replace hI : r = b2 (lo ≤ v ∧ v ≤ hi) := hI
    subst hI
    have hl : lv_has ls 3 [(0, .int v), (1, .int lo), (2, .int hi)] := hl
    refine tS (st' := [.int (b2 (lo ≤ v ∧ v ≤ hi))]) rfl ?_
    exact W.zret hx hb hr (b2_z _) (fun t ht hW => ⟨rfl, ht⟩) (fun _ h => nomatch h) dX6_in_15
  · skip
    refine lv_icmp_lt (tgt := 14) hx hb dX6_in_2 (by decide) (fun c2 => ?_) (fun c2 => ?_)
    · skip
      refine lv_iconst (v := nI 0) hx hb dX6_in_14 (by decide +kernel) ?_
      exact J15 (nI 0) _ (by (try simp only [i_lt, Classical.not_not, b2_0, b2_1] at c2); simp [b2, c2]) (lv_sub hl [0, 1, 2] rfl)
    · skip
      refine lv_iload_n hx hb dX6_in_5 rfl (lv_at hl 0 rfl) ?_
      refine lv_iload_n hx hb dX6_in_6 rfl (lv_at hl 2 rfl) ?_
      refine lv_icmp_gt (tgt := 14) hx hb dX6_in_7 (by decide) (fun c7 => ?_) (fun c7 => ?_)
      · skip
        refine lv_iconst (v := nI 0) hx hb dX6_in_14 (by decide +kernel) ?_
        exact J15 (nI 0) _ (by (try simp only [i_lt, Classical.not_not, b2_0, b2_1] at c2); (try simp only [i_lt, Classical.not_not, b2_0, b2_1] at c7); simp [b2, c2, c7]) (lv_sub hl [0, 1, 2] rfl)
      · skip
        refine lv_iconst (v := nI 1) hx hb dX6_in_10 (by decide +kernel) ?_
        refine lv_goto (tgt := 15) hx hb dX6_in_11 (by decide) ?_
        exact J15 (nI 1) _ (by (try simp only [i_lt, Classical.not_not, b2_0, b2_1] at c2); (try simp only [i_lt, Classical.not_not, b2_0, b2_1] at c7); simp [b2, c2, c7]) (lv_sub hl [0, 1, 2] rfl)
set_option maxHeartbeats 4000000 in
set_option maxRecDepth 100000 in
theorem c_X6_waitingAt (l : Launch) (G : eG) (a : Nat) (f : Nat → Int32) (b : Nat) (hb2 : b < 2) : Met l yX6_waitingAt wsX6_waitingAt ({ frames := 0, cells := 0, slots := 0, locals := 0 }) (PC [.ref a, .int (nI b)] G (fun H => va_P G.1 vwCl [(a, .inl (G.2.1, 97, .inl f))] H)) (PQ (some (.int (f (57 + (11 * b)))))) 0 0 noA := by
  refine ofB (cc := cX6_waitingAt) (maxL := 2) (ret := (some .int)) (by decide) rfl (Nat.le_of_ble_eq_true rfl) ?_
  intro p e s m below meth c hx hb hr hlocks hml hown hin hts hE hI ls hl
  replace hown : s.vm.findClass RX6 = some m.cls := hown
  have hl : lv_has ls 2 [(0, .ref a), (1, .int (nI b))] := hl
  have hP : va_P G.1 vwCl [(a, .inl (G.2.1, 97, .inl f))] s.heap := hI
  skip
  refine lv_aload_n hx hb dX6_waitingAt_0 rfl (lv_at hl 0 rfl) ?_
  refine lv_bipush (v := nI 57) hx hb dX6_waitingAt_1 (by decide +kernel) ?_
  refine lv_bipush (v := nI 11) hx hb dX6_waitingAt_3 (by decide +kernel) ?_
  refine lv_iload_n hx hb dX6_waitingAt_5 rfl (lv_at hl 1 rfl) ?_
  refine imulN hx hb dX6_waitingAt_6 ?_
  refine iaddN hx hb dX6_waitingAt_7 ?_
  refine ialdN (k := (57 + (11 * b))) hx hb hE.1 hP 0 0 rfl rfl (by omega) (by decide) dX6_waitingAt_8 ?_
  exact W.iret hx hb hr (fun t ht hW => ⟨rfl, ht⟩) (fun _ h => nomatch h) dX6_waitingAt_9
set_option maxHeartbeats 4000000 in
set_option maxRecDepth 100000 in
theorem c_X6_weightOf (l : Launch) (G : eG) (a : Nat) (f : Nat → Int32) (b j : Nat) (hb2 : b < 2) (hj : j < 10) : Met l yX6_weightOf wsX6_weightOf ({ frames := 0, cells := 0, slots := 0, locals := 0 }) (PC [.ref a, .int (nI b), .int (nI j)] G (fun H => va_P G.1 vwCl [(a, .inl (G.2.1, 97, .inl f))] H)) (PQ (some (.int (f (((57 + (11 * b)) + 1) + j))))) 0 0 noA := by
  refine ofB (cc := cX6_weightOf) (maxL := 3) (ret := (some .int)) (by decide) rfl (Nat.le_of_ble_eq_true rfl) ?_
  intro p e s m below meth c hx hb hr hlocks hml hown hin hts hE hI ls hl
  replace hown : s.vm.findClass RX6 = some m.cls := hown
  have hl : lv_has ls 3 [(0, .ref a), (1, .int (nI b)), (2, .int (nI j))] := hl
  have hP : va_P G.1 vwCl [(a, .inl (G.2.1, 97, .inl f))] s.heap := hI
  skip
  refine lv_aload_n hx hb dX6_weightOf_0 rfl (lv_at hl 0 rfl) ?_
  refine lv_bipush (v := nI 57) hx hb dX6_weightOf_1 (by decide +kernel) ?_
  refine lv_bipush (v := nI 11) hx hb dX6_weightOf_3 (by decide +kernel) ?_
  refine lv_iload_n hx hb dX6_weightOf_5 rfl (lv_at hl 1 rfl) ?_
  refine imulN hx hb dX6_weightOf_6 ?_
  refine iaddN hx hb dX6_weightOf_7 ?_
  refine lv_iconst (v := nI 1) hx hb dX6_weightOf_8 (by decide +kernel) ?_
  refine iaddN hx hb dX6_weightOf_9 ?_
  refine lv_iload_n hx hb dX6_weightOf_10 rfl (lv_at hl 2 rfl) ?_
  refine iaddN hx hb dX6_weightOf_11 ?_
  refine ialdN (k := (((57 + (11 * b)) + 1) + j)) hx hb hE.1 hP 0 0 rfl rfl (by omega) (by decide) dX6_weightOf_12 ?_
  exact W.iret hx hb hr (fun t ht hW => ⟨rfl, ht⟩) (fun _ h => nomatch h) dX6_weightOf_13
set_option maxHeartbeats 4000000 in
set_option maxRecDepth 100000 in
theorem c_X6_onLane (l : Launch) (G : eG) (a : Nat) (f : Nat → Int32) (b : Nat) (hb2 : b < 2) : Met l yX6_onLane wsX6_onLane ({ frames := 0, cells := 0, slots := 0, locals := 0 }) (PC [.ref a, .int (nI b)] G (fun H => va_P G.1 vwCl [(a, .inl (G.2.1, 97, .inl f))] H)) (PQ (some (.int (f (79 + (9 * b)))))) 0 0 noA := by
  refine ofB (cc := cX6_onLane) (maxL := 2) (ret := (some .int)) (by decide) rfl (Nat.le_of_ble_eq_true rfl) ?_
  intro p e s m below meth c hx hb hr hlocks hml hown hin hts hE hI ls hl
  replace hown : s.vm.findClass RX6 = some m.cls := hown
  have hl : lv_has ls 2 [(0, .ref a), (1, .int (nI b))] := hl
  have hP : va_P G.1 vwCl [(a, .inl (G.2.1, 97, .inl f))] s.heap := hI
  skip
  refine lv_aload_n hx hb dX6_onLane_0 rfl (lv_at hl 0 rfl) ?_
  refine lv_bipush (v := nI 79) hx hb dX6_onLane_1 (by decide +kernel) ?_
  refine lv_bipush (v := nI 9) hx hb dX6_onLane_3 (by decide +kernel) ?_
  refine lv_iload_n hx hb dX6_onLane_5 rfl (lv_at hl 1 rfl) ?_
  refine imulN hx hb dX6_onLane_6 ?_
  refine iaddN hx hb dX6_onLane_7 ?_
  refine ialdN (k := (79 + (9 * b))) hx hb hE.1 hP 0 0 rfl rfl (by omega) (by decide) dX6_onLane_8 ?_
  exact W.iret hx hb hr (fun t ht hW => ⟨rfl, ht⟩) (fun _ h => nomatch h) dX6_onLane_9
set_option maxHeartbeats 4000000 in
set_option maxRecDepth 100000 in
theorem c_X6_ofDeck (l : Launch) (G : eG) (a : Nat) (f : Nat → Int32) (b j k : Nat) (hb2 : b < 2) (hj : j < 4) (hk2 : k < 2) : Met l yX6_ofDeck wsX6_ofDeck ({ frames := 0, cells := 0, slots := 0, locals := 0 }) (PC [.ref a, .int (nI b), .int (nI j), .int (nI k)] G (fun H => va_P G.1 vwCl [(a, .inl (G.2.1, 97, .inl f))] H)) (PQ (some (.int (f ((((79 + (9 * b)) + 1) + (2 * j)) + k))))) 0 0 noA := by
  refine ofB (cc := cX6_ofDeck) (maxL := 4) (ret := (some .int)) (by decide) rfl (Nat.le_of_ble_eq_true rfl) ?_
  intro p e s m below meth c hx hb hr hlocks hml hown hin hts hE hI ls hl
  replace hown : s.vm.findClass RX6 = some m.cls := hown
  have hl : lv_has ls 4 [(0, .ref a), (1, .int (nI b)), (2, .int (nI j)), (3, .int (nI k))] := hl
  have hP : va_P G.1 vwCl [(a, .inl (G.2.1, 97, .inl f))] s.heap := hI
  skip
  refine lv_aload_n hx hb dX6_ofDeck_0 rfl (lv_at hl 0 rfl) ?_
  refine lv_bipush (v := nI 79) hx hb dX6_ofDeck_1 (by decide +kernel) ?_
  refine lv_bipush (v := nI 9) hx hb dX6_ofDeck_3 (by decide +kernel) ?_
  refine lv_iload_n hx hb dX6_ofDeck_5 rfl (lv_at hl 1 rfl) ?_
  refine imulN hx hb dX6_ofDeck_6 ?_
  refine iaddN hx hb dX6_ofDeck_7 ?_
  refine lv_iconst (v := nI 1) hx hb dX6_ofDeck_8 (by decide +kernel) ?_
  refine iaddN hx hb dX6_ofDeck_9 ?_
  refine lv_iconst (v := nI 2) hx hb dX6_ofDeck_10 (by decide +kernel) ?_
  refine lv_iload_n hx hb dX6_ofDeck_11 rfl (lv_at hl 2 rfl) ?_
  refine imulN hx hb dX6_ofDeck_12 ?_
  refine iaddN hx hb dX6_ofDeck_13 ?_
  refine lv_iload_n hx hb dX6_ofDeck_14 rfl (lv_at hl 3 rfl) ?_
  refine iaddN hx hb dX6_ofDeck_15 ?_
  refine ialdN (k := ((((79 + (9 * b)) + 1) + (2 * j)) + k)) hx hb hE.1 hP 0 0 rfl rfl (by omega) (by decide) dX6_ofDeck_16 ?_
  exact W.iret hx hb hr (fun t ht hW => ⟨rfl, ht⟩) (fun _ h => nomatch h) dX6_ofDeck_17
set_option maxHeartbeats 4000000 in
set_option maxRecDepth 100000 in
theorem c_X6_laneWeight (l : Launch) (G : eG) (a : Nat) (f : Nat → Int32) (hs : Shp f) (b : Nat) (hb2 : b < 2) : Met l yX6_laneWeight wsX6_laneWeight ({ frames := 1, cells := 0, slots := 0, locals := 23 }) (PC [.ref a, .int (nI b)] G (fun H => va_P G.1 vwCl [(a, .inl (G.2.1, 97, .inl f))] H)) (PQ (some (.int (fLw f b)))) 0 0 noA := by
  refine ofB (cc := cX6_laneWeight) (maxL := 4) (ret := (some .int)) (by decide) rfl (Nat.le_of_ble_eq_true rfl) ?_
  intro p e s m below meth c hx hb hr hlocks hml hown hin hts hE hI ls hl
  replace hown : s.vm.findClass RX6 = some m.cls := hown
  have hl : lv_has ls 4 [(0, .ref a), (1, .int (nI b))] := hl
  have hP : va_P G.1 vwCl [(a, .inl (G.2.1, 97, .inl f))] s.heap := hI
  obtain ⟨hn, hn4⟩ := hs.1 b hb2
  refine lv_iconst (v := nI 0) hx hb dX6_laneWeight_0 (by decide +kernel) ?_
  refine lv_istore_n (lv' := [(2, .int (nI 0)), (0, .ref a), (1, .int (nI b))]) hx hb dX6_laneWeight_1 rfl hl (by decide) rfl (fun ls hl => ?_)
  refine lv_iconst (v := nI 0) hx hb dX6_laneWeight_2 (by decide +kernel) ?_
  refine lv_istore_n (lv' := [(3, .int (nI 0)), (2, .int (nI 0)), (0, .ref a), (1, .int (nI b))]) hx hb dX6_laneWeight_3 rfl hl (by decide) rfl (fun ls hl => ?_)
  refine loopL (σ := Nat × Int32) (n := 4) (pc1 := 4) (fun (z_ : Nat × Int32) => match z_ with | (i, acc) => nn f (79 + 9 * b) - i) (fun (z_ : Nat × Int32) => match z_ with | (i, acc) => i ≤ nn f (79 + 9 * b) ∧ acc = sumI (fun j => f (79 + 9 * b + 1 + 2 * j + 0)) i) (fun (z_ : Nat × Int32) => match z_ with | (i, acc) => [(3, .int (nI i)), (2, .int acc), (0, .ref a), (1, .int (nI b))]) (fun (z_ : Nat × Int32) => match z_ with | (i, acc) => []) ?_ (0, nI 0) _ ⟨Nat.zero_le _, rfl⟩ (lv_sub hl [0, 1, 2, 3] rfl)
  rintro ⟨i, acc⟩ ls hI hl ih4
  have hl : lv_has ls 4 [(3, .int (nI i)), (2, .int acc), (0, .ref a), (1, .int (nI b))] := hl
  replace hI : i ≤ nn f (79 + 9 * b) ∧ acc = sumI (fun j => f (79 + 9 * b + 1 + 2 * j + 0)) i := hI
  obtain ⟨hi, ha⟩ := hI
  refine tS (st' := []) rfl ?_
  refine lv_iload_n hx hb dX6_laneWeight_4 rfl (lv_at hl 0 rfl) ?_
  refine lv_aload_n hx hb dX6_laneWeight_5 rfl (lv_at hl 2 rfl) ?_
  refine lv_iload_n hx hb dX6_laneWeight_6 rfl (lv_at hl 3 rfl) ?_
  refine pcall (st1 := [.int (f (79 + (9 * b))), .int (nI i)]) (va_runS (As := [.ref a, .int (nI b)]) (rest := [.int (nI i)]) ⟨hx, hb, hml, hown, hts⟩ (c_X6_onLane l G a f b (by omega)) (va_cwS 2 hts gX6_laneWeight_X6_onLane rfl rfl rfl (by decide +kernel) ⟨Nat.le_of_ble_eq_true rfl, Nat.le_of_ble_eq_true rfl⟩) (PC.preS hE (hP.sub [0] rfl)) rfl rfl hl.1 rfl (lv_room (Nat.le_of_ble_eq_true rfl)) dX6_laneWeight_7 ⟨Nat.zero_le _, Nat.zero_le _⟩) rfl ?_
  refine tI (y := nI (nn f (79 + 9 * b))) (hn) ?_
  refine icmp_geN (tgt := 29) hx hb (by omega) (by omega) dX6_laneWeight_10 (by decide) (fun c10 => ?_) (fun c10 => ?_)
  · skip
    refine lv_iload_n hx hb dX6_laneWeight_29 rfl (lv_at hl 1 rfl) ?_
    refine tS (st' := [.int (fLw f b)]) (congrArg (fun z => [Value.int z]) (by rw [ha, show i = nn f (79 + 9 * b) by omega]; rfl)) ?_
    exact W.iret hx hb hr (fun t ht hW => ⟨rfl, ht⟩) (fun _ h => nomatch h) dX6_laneWeight_30
  · skip
    refine lv_iload_n hx hb dX6_laneWeight_13 rfl (lv_at hl 1 rfl) ?_
    refine lv_aload_n hx hb dX6_laneWeight_14 rfl (lv_at hl 2 rfl) ?_
    refine lv_iload_n hx hb dX6_laneWeight_15 rfl (lv_at hl 3 rfl) ?_
    refine lv_iload_n hx hb dX6_laneWeight_16 rfl (lv_at hl 0 rfl) ?_
    refine lv_iconst (v := nI 0) hx hb dX6_laneWeight_17 (by decide +kernel) ?_
    refine pcall (st1 := [.int (f ((((79 + (9 * b)) + 1) + (2 * i)) + 0)), .int acc]) (va_runS (As := [.ref a, .int (nI b), .int (nI i), .int (nI 0)]) (rest := [.int acc]) ⟨hx, hb, hml, hown, hts⟩ (c_X6_ofDeck l G a f b i 0 (by omega) (by omega) (by omega)) (va_cwS 4 hts gX6_laneWeight_X6_ofDeck rfl rfl rfl (by decide +kernel) ⟨Nat.le_of_ble_eq_true rfl, Nat.le_of_ble_eq_true rfl⟩) (PC.preS hE (hP.sub [0] rfl)) rfl rfl hl.1 rfl (lv_room (Nat.le_of_ble_eq_true rfl)) dX6_laneWeight_18 ⟨Nat.zero_le _, Nat.zero_le _⟩) rfl ?_
    refine lv_iadd hx hb dX6_laneWeight_21 ?_
    refine lv_istore_n (lv' := [(2, .int (acc + (f ((((79 + (9 * b)) + 1) + (2 * i)) + 0)))), (3, .int (nI i)), (0, .ref a), (1, .int (nI b))]) hx hb dX6_laneWeight_22 rfl hl (by decide) rfl (fun ls hl => ?_)
    refine lv_iinc (v := nI (i + 1)) (lv' := [(3, .int (nI (i + 1))), (2, .int (acc + (f ((((79 + (9 * b)) + 1) + (2 * i)) + 0)))), (0, .ref a), (1, .int (nI b))]) hx hb dX6_laneWeight_23 hl (k := 1) rfl (nI_inc1 _) (by decide) rfl (fun ls hl => ?_)
    refine lv_goto (tgt := 4) hx hb dX6_laneWeight_26 (by decide) ?_
    exact ih4 ((i + 1), (acc + (f ((((79 + (9 * b)) + 1) + (2 * i)) + 0)))) _ ⟨by omega, by rw [ha]; rfl⟩ (lv_sub hl [0, 1, 2, 3] rfl) (by (try dsimp only); omega)
set_option maxHeartbeats 4000000 in
set_option maxRecDepth 100000 in
theorem c_X6_size (l : Launch) (G : eG) (v : Int32) : Met l yX6_size wsX6_size ({ frames := 0, cells := 0, slots := 0, locals := 0 }) (PC [.int v] G (fun H => va_P G.1 vwCl [] H)) (PQ (some (.int (absI v)))) 0 0 noA := by
  refine ofB (cc := cX6_size) (maxL := 1) (ret := (some .int)) (by decide) rfl (Nat.le_of_ble_eq_true rfl) ?_
  intro p e s m below meth c hx hb hr hlocks hml hown hin hts hE hI ls hl
  replace hown : s.vm.findClass RX6 = some m.cls := hown
  have hl : lv_has ls 1 [(0, .int v)] := hl
  have hP : va_P G.1 vwCl [] s.heap := hI
  skip
  refine lv_iload_n hx hb dX6_size_0 rfl (lv_at hl 0 rfl) ?_
  refine cutL (σ := Int32) (n := 1) (pc1 := 10) (fun r => r = absI v) (fun r => [(0, .int v)]) (fun r => [.int r]) ?_ (fun J10 => ?_)
  · rintro r ls hI hl
    replace hI : r = absI v := hI
    subst hI
    have hl : lv_has ls 1 [(0, .int v)] := hl
    refine tS (st' := [.int (absI v)]) rfl ?_
    exact W.iret hx hb hr (fun t ht hW => ⟨rfl, ht⟩) (fun _ h => nomatch h) dX6_size_10
  · skip
    refine lv_if_ge (tgt := 9) hx hb dX6_size_1 (by decide) (fun c1 => ?_) (fun c1 => ?_)
    · skip
      refine lv_iload_n hx hb dX6_size_9 rfl (lv_at hl 0 rfl) ?_
      exact J10 v _ (by (try simp only [i_lt, Classical.not_not, b2_0, b2_1] at c1); simp [b2, absI, c1]) (lv_sub hl [0] rfl)
    · skip
      refine lv_iload_n hx hb dX6_size_4 rfl (lv_at hl 0 rfl) ?_
      refine lv_ineg hx hb dX6_size_5 ?_
      refine lv_goto (tgt := 10) hx hb dX6_size_6 (by decide) ?_
      exact J10 (-v) _ (by (try simp only [i_lt, Classical.not_not, b2_0, b2_1] at c1); simp [b2, absI, c1]) (lv_sub hl [0] rfl)
set_option maxHeartbeats 4000000 in
set_option maxRecDepth 100000 in
theorem c_X6_list (l : Launch) (G : eG) (a : Nat) (f : Nat → Int32) (hs : Shp f) : Met l yX6_list wsX6_list ({ frames := 2, cells := 0, slots := 0, locals := 46 }) (PC [.ref a] G (fun H => va_P G.1 vwCl [(a, .inl (G.2.1, 97, .inl f))] H)) (PQ (some (.int (fLst f)))) 0 0 noA := by
  refine ofB (cc := cX6_list) (maxL := 1) (ret := (some .int)) (by decide) rfl (Nat.le_of_ble_eq_true rfl) ?_
  intro p e s m below meth c hx hb hr hlocks hml hown hin hts hE hI ls hl
  replace hown : s.vm.findClass RX6 = some m.cls := hown
  have hl : lv_has ls 1 [(0, .ref a)] := hl
  have hP : va_P G.1 vwCl [(a, .inl (G.2.1, 97, .inl f))] s.heap := hI
  skip
  refine lv_aload_n hx hb dX6_list_0 rfl (lv_at hl 0 rfl) ?_
  refine lv_iconst (v := nI 0) hx hb dX6_list_1 (by decide +kernel) ?_
  refine pcall (st1 := [.int (fLw f 0)]) (va_runS (As := [.ref a, .int (nI 0)]) (rest := []) ⟨hx, hb, hml, hown, hts⟩ (c_X6_laneWeight l G a f hs 0 (by omega)) (va_cwS 2 hts gX6_list_X6_laneWeight rfl rfl rfl (by decide +kernel) ⟨Nat.le_of_ble_eq_true rfl, Nat.le_of_ble_eq_true rfl⟩) (PC.preS hE (hP.sub [0] rfl)) rfl rfl hl.1 rfl (lv_room (Nat.le_of_ble_eq_true rfl)) dX6_list_2 ⟨Nat.zero_le _, Nat.zero_le _⟩) rfl ?_
  refine lv_aload_n hx hb dX6_list_5 rfl (lv_at hl 0 rfl) ?_
  refine lv_iconst (v := nI 1) hx hb dX6_list_6 (by decide +kernel) ?_
  refine pcall (st1 := [.int (fLw f 1), .int (fLw f 0)]) (va_runS (As := [.ref a, .int (nI 1)]) (rest := [.int (fLw f 0)]) ⟨hx, hb, hml, hown, hts⟩ (c_X6_laneWeight l G a f hs 1 (by omega)) (va_cwS 2 hts gX6_list_X6_laneWeight rfl rfl rfl (by decide +kernel) ⟨Nat.le_of_ble_eq_true rfl, Nat.le_of_ble_eq_true rfl⟩) (PC.preS hE (hP.sub [0] rfl)) rfl rfl hl.1 rfl (lv_room (Nat.le_of_ble_eq_true rfl)) dX6_list_7 ⟨Nat.zero_le _, Nat.zero_le _⟩) rfl ?_
  refine lv_isub hx hb dX6_list_10 ?_
  refine pcall (st1 := [.int (absI ((fLw f 0) - (fLw f 1)))]) (va_runS (As := [.int ((fLw f 0) - (fLw f 1))]) (rest := []) ⟨hx, hb, hml, hown, hts⟩ (c_X6_size l G ((fLw f 0) - (fLw f 1))) (va_cwS 1 hts gX6_list_X6_size rfl rfl rfl (by decide +kernel) ⟨Nat.le_of_ble_eq_true rfl, Nat.le_of_ble_eq_true rfl⟩) (PC.preS hE P_nil) rfl rfl hl.1 rfl (lv_room (Nat.le_of_ble_eq_true rfl)) dX6_list_11 ⟨Nat.zero_le _, Nat.zero_le _⟩) rfl ?_
  refine tS (st' := [.int (fLst f)]) (congrArg (fun z => [Value.int z]) (rfl)) ?_
  exact W.iret hx hb hr (fun t ht hW => ⟨rfl, ht⟩) (fun _ h => nomatch h) dX6_list_14
set_option maxHeartbeats 4000000 in
set_option maxRecDepth 100000 in
theorem c_X6_strength (l : Launch) (G : eG) (a : Nat) (f : Nat → Int32) (k : Nat) (hk : k < 20) : Met l yX6_strength wsX6_strength ({ frames := 0, cells := 0, slots := 0, locals := 0 }) (PC [.ref a, .int (nI k)] G (fun H => va_P G.1 vwCl [(a, .inl (G.2.1, 97, .inl f))] H)) (PQ (some (.int (fStr f k)))) 0 0 noA := by
  refine ofB (cc := cX6_strength) (maxL := 3) (ret := (some .int)) (by decide) rfl (Nat.le_of_ble_eq_true rfl) ?_
  intro p e s m below meth c hx hb hr hlocks hml hown hin hts hE hI ls hl
  replace hown : s.vm.findClass RX6 = some m.cls := hown
  have hl : lv_has ls 3 [(0, .ref a), (1, .int (nI k))] := hl
  have hP : va_P G.1 vwCl [(a, .inl (G.2.1, 97, .inl f))] s.heap := hI
  skip
  refine lv_aload_n hx hb dX6_strength_0 rfl (lv_at hl 0 rfl) ?_
  refine lv_iconst (v := nI 0) hx hb dX6_strength_1 (by decide +kernel) ?_
  refine ialdN (k := 0) hx hb hE.1 hP 0 0 rfl rfl (by omega) (by decide) dX6_strength_2 ?_
  refine lv_aload_n hx hb dX6_strength_3 rfl (lv_at hl 0 rfl) ?_
  refine lv_bipush (v := nI 27) hx hb dX6_strength_4 (by decide +kernel) ?_
  refine lv_iload_n hx hb dX6_strength_6 rfl (lv_at hl 1 rfl) ?_
  refine iaddN hx hb dX6_strength_7 ?_
  refine ialdN (k := (27 + k)) hx hb hE.1 hP 0 0 rfl rfl (by omega) (by decide) dX6_strength_8 ?_
  refine lv_iconst (v := nI 2) hx hb dX6_strength_9 (by decide +kernel) ?_
  refine lv_idiv hx hb dX6_strength_10 (nI_nz (by decide) (by decide)) ?_
  refine lv_isub hx hb dX6_strength_11 ?_
  refine lv_istore_n (lv' := [(2, .int ((f 0) - ((f (27 + k)) / (nI 2)))), (0, .ref a), (1, .int (nI k))]) hx hb dX6_strength_12 rfl hl (by decide) rfl (fun ls hl => ?_)
  refine lv_iload_n hx hb dX6_strength_13 rfl (lv_at hl 0 rfl) ?_
  refine cutL (σ := Int32) (n := 3) (pc1 := 22) (fun r => r = fStr f k) (fun r => [(2, .int ((f 0) - ((f (27 + k)) / (nI 2)))), (0, .ref a), (1, .int (nI k))]) (fun r => [.int r]) ?_ (fun J22 => ?_)
  · rintro r ls hI hl
    replace hI : r = fStr f k := hI
    subst hI
    have hl : lv_has ls 3 [(2, .int ((f 0) - ((f (27 + k)) / (nI 2)))), (0, .ref a), (1, .int (nI k))] := hl
    refine tS (st' := [.int (fStr f k)]) rfl ?_
    exact W.iret hx hb hr (fun t ht hW => ⟨rfl, ht⟩) (fun _ h => nomatch h) dX6_strength_22
  · skip
    refine lv_if_ge (tgt := 21) hx hb dX6_strength_14 (by decide) (fun c14 => ?_) (fun c14 => ?_)
    · skip
      refine lv_iload_n hx hb dX6_strength_21 rfl (lv_at hl 0 rfl) ?_
      exact J22 ((f 0) - ((f (27 + k)) / (nI 2))) _ (by (try simp only [i_lt, Classical.not_not, b2_0, b2_1] at c14); simp [b2, fStr, c14]) (lv_sub hl [0, 1, 2] rfl)
    · skip
      refine lv_iconst (v := nI 0) hx hb dX6_strength_17 (by decide +kernel) ?_
      refine lv_goto (tgt := 22) hx hb dX6_strength_18 (by decide) ?_
      exact J22 (nI 0) _ (by (try simp only [i_lt, Classical.not_not, b2_0, b2_1] at c14); simp [b2, fStr, c14]) (lv_sub hl [0, 1, 2] rfl)
set_option maxHeartbeats 4000000 in
set_option maxRecDepth 100000 in
theorem c_X6_tensionBy (l : Launch) (G : eG) (a : Nat) (f : Nat → Int32) (k : Nat) (hk : k < 20) (cu li wt : Int32) : Met l yX6_tensionBy wsX6_tensionBy ({ frames := 0, cells := 0, slots := 0, locals := 0 }) (PC [.ref a, .int (nI k), .int cu, .int li, .int wt] G (fun H => va_P G.1 vwCl [(a, .inl (G.2.1, 97, .inl f))] H)) (PQ (some (.int (fTby f k cu li wt)))) 0 0 noA := by
  refine ofB (cc := cX6_tensionBy) (maxL := 7) (ret := (some .int)) (by decide) rfl (Nat.le_of_ble_eq_true rfl) ?_
  intro p e s m below meth c hx hb hr hlocks hml hown hin hts hE hI ls hl
  replace hown : s.vm.findClass RX6 = some m.cls := hown
  have hl : lv_has ls 7 [(0, .ref a), (1, .int (nI k)), (2, .int cu), (3, .int li), (4, .int wt)] := hl
  have hP : va_P G.1 vwCl [(a, .inl (G.2.1, 97, .inl f))] s.heap := hI
  skip
  refine lv_iload_n hx hb dX6_tensionBy_0 rfl (lv_at hl 1 rfl) ?_
  refine lv_iconst (v := nI 1) hx hb dX6_tensionBy_1 (by decide +kernel) ?_
  refine iaddN hx hb dX6_tensionBy_2 ?_
  refine lv_bipush (v := nI 20) hx hb dX6_tensionBy_3 (by decide +kernel) ?_
  refine lv_iload_n hx hb dX6_tensionBy_5 rfl (lv_at hl 1 rfl) ?_
  refine isubN hx hb (by omega) dX6_tensionBy_6 ?_
  refine cutL (σ := Nat) (n := 7) (pc1 := 20) (fun q => q = fFar k) (fun q => [(0, .ref a), (1, .int (nI k)), (2, .int cu), (3, .int li), (4, .int wt)]) (fun q => [.int (nI q)]) ?_ (fun J20 => ?_)
  · rintro q ls hI hl
    replace hI : q = fFar k := hI
    subst hI
    have hl : lv_has ls 7 [(0, .ref a), (1, .int (nI k)), (2, .int cu), (3, .int li), (4, .int wt)] := hl
    refine tS (st' := [.int (nI (fFar k))]) rfl ?_
    refine lv_istore (lv' := [(5, .int (nI (fFar k))), (0, .ref a), (1, .int (nI k)), (2, .int cu), (3, .int li), (4, .int wt)]) hx hb dX6_tensionBy_20 hl (by decide) rfl (fun ls hl => ?_)
    refine lv_iload_n hx hb dX6_tensionBy_22 rfl (lv_at hl 3 rfl) ?_
    refine lv_iload hx hb dX6_tensionBy_23 (lv_at hl 0 rfl) ?_
    refine lv_imul hx hb dX6_tensionBy_25 ?_
    refine lv_bipush (v := nI 10) hx hb dX6_tensionBy_26 (by decide +kernel) ?_
    refine lv_idiv hx hb dX6_tensionBy_28 (nI_nz (by decide) (by decide)) ?_
    refine lv_bipush (v := nI 20) hx hb dX6_tensionBy_29 (by decide +kernel) ?_
    refine lv_iload hx hb dX6_tensionBy_31 (lv_at hl 5 rfl) ?_
    refine lv_iadd hx hb dX6_tensionBy_33 ?_
    refine lv_imul hx hb dX6_tensionBy_34 ?_
    refine lv_bipush (v := nI 10) hx hb dX6_tensionBy_35 (by decide +kernel) ?_
    refine lv_idiv hx hb dX6_tensionBy_37 (nI_nz (by decide) (by decide)) ?_
    refine lv_iconst (v := nI 3) hx hb dX6_tensionBy_38 (by decide +kernel) ?_
    refine lv_iload_n hx hb dX6_tensionBy_39 rfl (lv_at hl 4 rfl) ?_
    refine lv_imul hx hb dX6_tensionBy_40 ?_
    refine lv_iadd hx hb dX6_tensionBy_41 ?_
    refine lv_iconst (v := nI 4) hx hb dX6_tensionBy_42 (by decide +kernel) ?_
    refine lv_aload_n hx hb dX6_tensionBy_43 rfl (lv_at hl 1 rfl) ?_
    refine lv_bipush (v := nI 47) hx hb dX6_tensionBy_44 (by decide +kernel) ?_
    refine ialdN (k := 47) hx hb hE.1 hP 0 0 rfl rfl (by omega) (by decide) dX6_tensionBy_46 ?_
    refine lv_imul hx hb dX6_tensionBy_47 ?_
    refine lv_isub hx hb dX6_tensionBy_48 ?_
    refine lv_istore (lv' := [(6, .int ((((((cu * (nI (fFar k))) / (nI 10)) * ((nI 20) + wt)) / (nI 10)) + ((nI 3) * li)) - ((nI 4) * (f 47)))), (5, .int (nI (fFar k))), (0, .ref a), (1, .int (nI k)), (2, .int cu), (3, .int li), (4, .int wt)]) hx hb dX6_tensionBy_49 hl (by decide) rfl (fun ls hl => ?_)
    refine lv_iload hx hb dX6_tensionBy_51 (lv_at hl 0 rfl) ?_
    refine cutL (σ := Int32) (n := 7) (pc1 := 62) (fun r => r = fTby f k cu li wt) (fun r => [(6, .int ((((((cu * (nI (fFar k))) / (nI 10)) * ((nI 20) + wt)) / (nI 10)) + ((nI 3) * li)) - ((nI 4) * (f 47)))), (5, .int (nI (fFar k))), (0, .ref a), (1, .int (nI k)), (2, .int cu), (3, .int li), (4, .int wt)]) (fun r => [.int r]) ?_ (fun J62 => ?_)
    · rintro r ls hI hl
      replace hI : r = fTby f k cu li wt := hI
      subst hI
      have hl : lv_has ls 7 [(6, .int ((((((cu * (nI (fFar k))) / (nI 10)) * ((nI 20) + wt)) / (nI 10)) + ((nI 3) * li)) - ((nI 4) * (f 47)))), (5, .int (nI (fFar k))), (0, .ref a), (1, .int (nI k)), (2, .int cu), (3, .int li), (4, .int wt)] := hl
      refine tS (st' := [.int (fTby f k cu li wt)]) rfl ?_
      exact W.iret hx hb hr (fun t ht hW => ⟨rfl, ht⟩) (fun _ h => nomatch h) dX6_tensionBy_62
    · skip
      refine lv_if_ge (tgt := 60) hx hb dX6_tensionBy_53 (by decide) (fun c53 => ?_) (fun c53 => ?_)
      · skip
        refine lv_iload hx hb dX6_tensionBy_60 (lv_at hl 0 rfl) ?_
        exact J62 ((((((cu * (nI (fFar k))) / (nI 10)) * ((nI 20) + wt)) / (nI 10)) + ((nI 3) * li)) - ((nI 4) * (f 47))) _ (by (try simp only [i_lt, Classical.not_not, b2_0, b2_1] at c53); simp [b2, fTby, fTb0, c53]) (lv_sub hl [0, 1, 2, 3, 4, 5, 6] rfl)
      · skip
        refine lv_iconst (v := nI 0) hx hb dX6_tensionBy_56 (by decide +kernel) ?_
        refine lv_goto (tgt := 62) hx hb dX6_tensionBy_57 (by decide) ?_
        exact J62 (nI 0) _ (by (try simp only [i_lt, Classical.not_not, b2_0, b2_1] at c53); simp [b2, fTby, fTb0, c53]) (lv_sub hl [0, 1, 2, 3, 4, 5, 6] rfl)
  · skip
    refine icmp_geN (tgt := 16) hx hb (by omega) (by omega) dX6_tensionBy_7 (by decide) (fun c7 => ?_) (fun c7 => ?_)
    · skip
      refine lv_bipush (v := nI 20) hx hb dX6_tensionBy_16 (by decide +kernel) ?_
      refine lv_iload_n hx hb dX6_tensionBy_18 rfl (lv_at hl 1 rfl) ?_
      refine isubN hx hb (by omega) dX6_tensionBy_19 ?_
      exact J20 (20 - k) _ (by unfold fFar; split <;> omega) (lv_sub hl [0, 1, 2, 3, 4] rfl)
    · skip
      refine lv_iload_n hx hb dX6_tensionBy_10 rfl (lv_at hl 1 rfl) ?_
      refine lv_iconst (v := nI 1) hx hb dX6_tensionBy_11 (by decide +kernel) ?_
      refine iaddN hx hb dX6_tensionBy_12 ?_
      refine lv_goto (tgt := 20) hx hb dX6_tensionBy_13 (by decide) ?_
      exact J20 (k + 1) _ (by unfold fFar; split <;> omega) (lv_sub hl [0, 1, 2, 3, 4] rfl)
set_option maxHeartbeats 4000000 in
set_option maxRecDepth 100000 in
theorem c_X6_tension (l : Launch) (G : eG) (a : Nat) (f : Nat → Int32) (hs : Shp f) (k : Nat) (hk : k < 20) : Met l yX6_tension wsX6_tension ({ frames := 3, cells := 0, slots := 0, locals := 66 }) (PC [.ref a, .int (nI k)] G (fun H => va_P G.1 vwCl [(a, .inl (G.2.1, 97, .inl f))] H)) (PQ (some (.int (fTen f k)))) 0 0 noA := by
  refine ofB (cc := cX6_tension) (maxL := 2) (ret := (some .int)) (by decide) rfl (Nat.le_of_ble_eq_true rfl) ?_
  intro p e s m below meth c hx hb hr hlocks hml hown hin hts hE hI ls hl
  replace hown : s.vm.findClass RX6 = some m.cls := hown
  have hl : lv_has ls 2 [(0, .ref a), (1, .int (nI k))] := hl
  have hP : va_P G.1 vwCl [(a, .inl (G.2.1, 97, .inl f))] s.heap := hI
  obtain ⟨h50, h50b⟩ := hs.2.2.2.1
  refine lv_aload_n hx hb dX6_tension_0 rfl (lv_at hl 0 rfl) ?_
  refine lv_iload_n hx hb dX6_tension_1 rfl (lv_at hl 1 rfl) ?_
  refine lv_aload_n hx hb dX6_tension_2 rfl (lv_at hl 0 rfl) ?_
  refine lv_iconst (v := nI 3) hx hb dX6_tension_3 (by decide +kernel) ?_
  refine lv_aload_n hx hb dX6_tension_4 rfl (lv_at hl 0 rfl) ?_
  refine lv_bipush (v := nI 50) hx hb dX6_tension_5 (by decide +kernel) ?_
  refine ialdN (k := 50) hx hb hE.1 hP 0 0 rfl rfl (by omega) (by decide) dX6_tension_7 ?_
  refine tI (y := nI (nn f 50)) (h50) ?_
  refine lv_bipush (v := nI 24) hx hb dX6_tension_8 (by decide +kernel) ?_
  refine iremN hx hb (by omega) (by decide) (by decide) dX6_tension_10 ?_
  refine iaddN hx hb dX6_tension_11 ?_
  refine ialdN (k := (3 + ((nn f 50) % 24))) hx hb hE.1 hP 0 0 rfl rfl (by omega) (by decide) dX6_tension_12 ?_
  refine lv_aload_n hx hb dX6_tension_13 rfl (lv_at hl 0 rfl) ?_
  refine pcall (st1 := [.int (fLst f), .int (f (3 + ((nn f 50) % 24))), .int (nI k), .ref a]) (va_runS (As := [.ref a]) (rest := [.int (f (3 + ((nn f 50) % 24))), .int (nI k), .ref a]) ⟨hx, hb, hml, hown, hts⟩ (c_X6_list l G a f hs) (va_cwS 1 hts gX6_tension_X6_list rfl rfl rfl (by decide +kernel) ⟨Nat.le_of_ble_eq_true rfl, Nat.le_of_ble_eq_true rfl⟩) (PC.preS hE (hP.sub [0] rfl)) rfl rfl hl.1 rfl (lv_room (Nat.le_of_ble_eq_true rfl)) dX6_tension_14 ⟨Nat.zero_le _, Nat.zero_le _⟩) rfl ?_
  refine lv_aload_n hx hb dX6_tension_17 rfl (lv_at hl 0 rfl) ?_
  refine lv_iconst (v := nI 0) hx hb dX6_tension_18 (by decide +kernel) ?_
  refine pcall (st1 := [.int (fLw f 0), .int (fLst f), .int (f (3 + ((nn f 50) % 24))), .int (nI k), .ref a]) (va_runS (As := [.ref a, .int (nI 0)]) (rest := [.int (fLst f), .int (f (3 + ((nn f 50) % 24))), .int (nI k), .ref a]) ⟨hx, hb, hml, hown, hts⟩ (c_X6_laneWeight l G a f hs 0 (by omega)) (va_cwS 2 hts gX6_tension_X6_laneWeight rfl rfl rfl (by decide +kernel) ⟨Nat.le_of_ble_eq_true rfl, Nat.le_of_ble_eq_true rfl⟩) (PC.preS hE (hP.sub [0] rfl)) rfl rfl hl.1 rfl (lv_room (Nat.le_of_ble_eq_true rfl)) dX6_tension_19 ⟨Nat.zero_le _, Nat.zero_le _⟩) rfl ?_
  refine lv_aload_n hx hb dX6_tension_22 rfl (lv_at hl 0 rfl) ?_
  refine lv_iconst (v := nI 1) hx hb dX6_tension_23 (by decide +kernel) ?_
  refine pcall (st1 := [.int (fLw f 1), .int (fLw f 0), .int (fLst f), .int (f (3 + ((nn f 50) % 24))), .int (nI k), .ref a]) (va_runS (As := [.ref a, .int (nI 1)]) (rest := [.int (fLw f 0), .int (fLst f), .int (f (3 + ((nn f 50) % 24))), .int (nI k), .ref a]) ⟨hx, hb, hml, hown, hts⟩ (c_X6_laneWeight l G a f hs 1 (by omega)) (va_cwS 2 hts gX6_tension_X6_laneWeight rfl rfl rfl (by decide +kernel) ⟨Nat.le_of_ble_eq_true rfl, Nat.le_of_ble_eq_true rfl⟩) (PC.preS hE (hP.sub [0] rfl)) rfl rfl hl.1 rfl (lv_room (Nat.le_of_ble_eq_true rfl)) dX6_tension_24 ⟨Nat.zero_le _, Nat.zero_le _⟩) rfl ?_
  refine lv_iadd hx hb dX6_tension_27 ?_
  refine pcall (st1 := [.int (fTby f k (f (3 + ((nn f 50) % 24))) (fLst f) ((fLw f 0) + (fLw f 1)))]) (va_runS (As := [.ref a, .int (nI k), .int (f (3 + ((nn f 50) % 24))), .int (fLst f), .int ((fLw f 0) + (fLw f 1))]) (rest := []) ⟨hx, hb, hml, hown, hts⟩ (c_X6_tensionBy l G a f k (by omega) (f (3 + ((nn f 50) % 24))) (fLst f) ((fLw f 0) + (fLw f 1))) (va_cwS 5 hts gX6_tension_X6_tensionBy rfl rfl rfl (by decide +kernel) ⟨Nat.le_of_ble_eq_true rfl, Nat.le_of_ble_eq_true rfl⟩) (PC.preS hE (hP.sub [0] rfl)) rfl rfl hl.1 rfl (lv_room (Nat.le_of_ble_eq_true rfl)) dX6_tension_28 ⟨Nat.zero_le _, Nat.zero_le _⟩) rfl ?_
  refine tS (st' := [.int (fTen f k)]) (congrArg (fun z => [Value.int z]) (rfl)) ?_
  exact W.iret hx hb hr (fun t ht hW => ⟨rfl, ht⟩) (fun _ h => nomatch h) dX6_tension_31
set_option maxHeartbeats 4000000 in
set_option maxRecDepth 100000 in
theorem c_X6_greatest (l : Launch) (G : eG) (a : Nat) (f : Nat → Int32) (c0 li wt : Int32) : Met l yX6_greatest wsX6_greatest ({ frames := 1, cells := 0, slots := 0, locals := 26 }) (PC [.ref a, .int c0, .int li, .int wt] G (fun H => va_P G.1 vwCl [(a, .inl (G.2.1, 97, .inl f))] H)) (PQ (some (.int (fGre f c0 li wt)))) 0 0 noA := by
  refine ofB (cc := cX6_greatest) (maxL := 7) (ret := (some .int)) (by decide) rfl (Nat.le_of_ble_eq_true rfl) ?_
  intro p e s m below meth c hx hb hr hlocks hml hown hin hts hE hI ls hl
  replace hown : s.vm.findClass RX6 = some m.cls := hown
  have hl : lv_has ls 7 [(0, .ref a), (1, .int c0), (2, .int li), (3, .int wt)] := hl
  have hP : va_P G.1 vwCl [(a, .inl (G.2.1, 97, .inl f))] s.heap := hI
  skip
  refine lv_iconst (v := nI 0) hx hb dX6_greatest_0 (by decide +kernel) ?_
  refine lv_istore (lv' := [(4, .int (nI 0)), (0, .ref a), (1, .int c0), (2, .int li), (3, .int wt)]) hx hb dX6_greatest_1 hl (by decide) rfl (fun ls hl => ?_)
  refine lv_iconst (v := nI 0) hx hb dX6_greatest_3 (by decide +kernel) ?_
  refine lv_istore (lv' := [(5, .int (nI 0)), (4, .int (nI 0)), (0, .ref a), (1, .int c0), (2, .int li), (3, .int wt)]) hx hb dX6_greatest_4 hl (by decide) rfl (fun ls hl => ?_)
  refine loopL (σ := Nat × Int32) (n := 7) (pc1 := 6) (fun (z_ : Nat × Int32) => match z_ with | (i, acc) => 20 - i) (fun (z_ : Nat × Int32) => match z_ with | (i, acc) => i ≤ 20 ∧ acc = maxI (fun k => fTby f k c0 li wt) i) (fun (z_ : Nat × Int32) => match z_ with | (i, acc) => [(5, .int (nI i)), (4, .int acc), (0, .ref a), (1, .int c0), (2, .int li), (3, .int wt)]) (fun (z_ : Nat × Int32) => match z_ with | (i, acc) => []) ?_ (0, nI 0) _ ⟨Nat.zero_le _, rfl⟩ (lv_sub hl [0, 1, 2, 3, 4, 5] rfl)
  rintro ⟨i, acc⟩ ls hI hl ih6
  have hl : lv_has ls 7 [(5, .int (nI i)), (4, .int acc), (0, .ref a), (1, .int c0), (2, .int li), (3, .int wt)] := hl
  replace hI : i ≤ 20 ∧ acc = maxI (fun k => fTby f k c0 li wt) i := hI
  obtain ⟨hi, ha⟩ := hI
  refine tS (st' := []) rfl ?_
  refine lv_iload hx hb dX6_greatest_6 (lv_at hl 0 rfl) ?_
  refine lv_bipush (v := nI 20) hx hb dX6_greatest_8 (by decide +kernel) ?_
  refine icmp_geN (tgt := 46) hx hb (by omega) (by omega) dX6_greatest_10 (by decide) (fun c10 => ?_) (fun c10 => ?_)
  · skip
    refine lv_iload hx hb dX6_greatest_46 (lv_at hl 1 rfl) ?_
    refine tS (st' := [.int (fGre f c0 li wt)]) (congrArg (fun z => [Value.int z]) (by rw [ha, show i = 20 by omega]; rfl)) ?_
    exact W.iret hx hb hr (fun t ht hW => ⟨rfl, ht⟩) (fun _ h => nomatch h) dX6_greatest_48
  · skip
    refine lv_aload_n hx hb dX6_greatest_13 rfl (lv_at hl 2 rfl) ?_
    refine lv_iload hx hb dX6_greatest_14 (lv_at hl 0 rfl) ?_
    refine lv_iload_n hx hb dX6_greatest_16 rfl (lv_at hl 3 rfl) ?_
    refine lv_iload_n hx hb dX6_greatest_17 rfl (lv_at hl 4 rfl) ?_
    refine lv_iload_n hx hb dX6_greatest_18 rfl (lv_at hl 5 rfl) ?_
    refine pcall (st1 := [.int (fTby f i c0 li wt)]) (va_runS (As := [.ref a, .int (nI i), .int c0, .int li, .int wt]) (rest := []) ⟨hx, hb, hml, hown, hts⟩ (c_X6_tensionBy l G a f i (by omega) c0 li wt) (va_cwS 5 hts gX6_greatest_X6_tensionBy rfl rfl rfl (by decide +kernel) ⟨Nat.le_of_ble_eq_true rfl, Nat.le_of_ble_eq_true rfl⟩) (PC.preS hE (hP.sub [0] rfl)) rfl rfl hl.1 rfl (lv_room (Nat.le_of_ble_eq_true rfl)) dX6_greatest_19 ⟨Nat.zero_le _, Nat.zero_le _⟩) rfl ?_
    refine lv_istore (lv' := [(6, .int (fTby f i c0 li wt)), (5, .int (nI i)), (4, .int acc), (0, .ref a), (1, .int c0), (2, .int li), (3, .int wt)]) hx hb dX6_greatest_22 hl (by decide) rfl (fun ls hl => ?_)
    refine lv_iload hx hb dX6_greatest_24 (lv_at hl 0 rfl) ?_
    refine lv_iload hx hb dX6_greatest_26 (lv_at hl 2 rfl) ?_
    refine cutL (σ := Int32) (n := 7) (pc1 := 38) (fun r => r = maxI (fun k => fTby f k c0 li wt) (i + 1)) (fun r => [(6, .int (fTby f i c0 li wt)), (5, .int (nI i)), (4, .int acc), (0, .ref a), (1, .int c0), (2, .int li), (3, .int wt)]) (fun r => [.int r]) ?_ (fun J38 => ?_)
    · rintro r ls hI hl
      have hl : lv_has ls 7 [(6, .int (fTby f i c0 li wt)), (5, .int (nI i)), (4, .int acc), (0, .ref a), (1, .int c0), (2, .int li), (3, .int wt)] := hl
      replace hI : r = maxI (fun k => fTby f k c0 li wt) (i + 1) := hI
      have hm := hI
      refine tS (st' := [.int r]) rfl ?_
      refine lv_istore (lv' := [(4, .int r), (6, .int (fTby f i c0 li wt)), (5, .int (nI i)), (0, .ref a), (1, .int c0), (2, .int li), (3, .int wt)]) hx hb dX6_greatest_38 hl (by decide) rfl (fun ls hl => ?_)
      refine lv_iinc (v := nI (i + 1)) (lv' := [(5, .int (nI (i + 1))), (4, .int r), (6, .int (fTby f i c0 li wt)), (0, .ref a), (1, .int c0), (2, .int li), (3, .int wt)]) hx hb dX6_greatest_40 hl (k := 2) rfl (nI_inc1 _) (by decide) rfl (fun ls hl => ?_)
      refine lv_goto (tgt := 6) hx hb dX6_greatest_43 (by decide) ?_
      exact ih6 ((i + 1), r) _ ⟨by omega, hm⟩ (lv_sub hl [0, 1, 3, 4, 5, 6] rfl) (by (try dsimp only); omega)
    · skip
      refine lv_icmp_le (tgt := 36) hx hb dX6_greatest_28 (by decide) (fun c28 => ?_) (fun c28 => ?_)
      · skip
        refine lv_iload hx hb dX6_greatest_36 (lv_at hl 2 rfl) ?_
        exact J38 acc _ (by show _ = (if _ ≤ _ then _ else _); rw [← ha]; simp [c28]) (lv_sub hl [0, 1, 2, 3, 4, 5, 6] rfl)
      · skip
        refine lv_iload hx hb dX6_greatest_31 (lv_at hl 0 rfl) ?_
        refine lv_goto (tgt := 38) hx hb dX6_greatest_33 (by decide) ?_
        exact J38 (fTby f i c0 li wt) _ (by show _ = (if _ ≤ _ then _ else _); rw [← ha]; simp [c28]) (lv_sub hl [0, 1, 2, 3, 4, 5, 6] rfl)
set_option maxHeartbeats 4000000 in
set_option maxRecDepth 100000 in
theorem c_X6_isTooTense (l : Launch) (G : eG) (a : Nat) (f : Nat → Int32) (hs : Shp f) : Met l yX6_isTooTense wsX6_isTooTense ({ frames := 4, cells := 0, slots := 0, locals := 87 }) (PC [.ref a] G (fun H => va_P G.1 vwCl [(a, .inl (G.2.1, 97, .inl f))] H)) (PQ (some (.int (b2 (fBears f 20 = false))))) 0 0 noA := by
  refine ofB (cc := cX6_isTooTense) (maxL := 3) (ret := (some .boolean)) (by decide) rfl (Nat.le_of_ble_eq_true rfl) ?_
  intro p e s m below meth c hx hb hr hlocks hml hown hin hts hE hI ls hl
  replace hown : s.vm.findClass RX6 = some m.cls := hown
  have hl : lv_has ls 3 [(0, .ref a)] := hl
  have hP : va_P G.1 vwCl [(a, .inl (G.2.1, 97, .inl f))] s.heap := hI
  skip
  refine lv_iconst (v := nI 0) hx hb dX6_isTooTense_0 (by decide +kernel) ?_
  refine lv_istore_n (lv' := [(1, .int (nI 0)), (0, .ref a)]) hx hb dX6_isTooTense_1 rfl hl (by decide) rfl (fun ls hl => ?_)
  refine lv_iconst (v := nI 0) hx hb dX6_isTooTense_2 (by decide +kernel) ?_
  refine lv_istore_n (lv' := [(2, .int (nI 0)), (1, .int (nI 0)), (0, .ref a)]) hx hb dX6_isTooTense_3 rfl hl (by decide) rfl (fun ls hl => ?_)
  refine loopL (σ := Nat × Int32) (n := 3) (pc1 := 4) (fun (z_ : Nat × Int32) => match z_ with | (i, acc) => 20 - i) (fun (z_ : Nat × Int32) => match z_ with | (i, acc) => i ≤ 20 ∧ acc = b2 (fBears f i = false)) (fun (z_ : Nat × Int32) => match z_ with | (i, acc) => [(2, .int (nI i)), (1, .int acc), (0, .ref a)]) (fun (z_ : Nat × Int32) => match z_ with | (i, acc) => []) ?_ (0, nI 0) _ ⟨Nat.zero_le _, rfl⟩ (lv_sub hl [0, 1, 2] rfl)
  rintro ⟨i, acc⟩ ls hI hl ih4
  have hl : lv_has ls 3 [(2, .int (nI i)), (1, .int acc), (0, .ref a)] := hl
  replace hI : i ≤ 20 ∧ acc = b2 (fBears f i = false) := hI
  obtain ⟨hi, ha⟩ := hI
  refine tS (st' := []) rfl ?_
  refine lv_iload_n hx hb dX6_isTooTense_4 rfl (lv_at hl 0 rfl) ?_
  refine lv_bipush (v := nI 20) hx hb dX6_isTooTense_5 (by decide +kernel) ?_
  refine icmp_geN (tgt := 39) hx hb (by omega) (by omega) dX6_isTooTense_7 (by decide) (fun c7 => ?_) (fun c7 => ?_)
  · skip
    refine lv_iload_n hx hb dX6_isTooTense_39 rfl (lv_at hl 1 rfl) ?_
    refine tS (st' := [.int (b2 (fBears f 20 = false))]) (congrArg (fun z => [Value.int z]) (by rw [ha, show i = 20 by omega])) ?_
    exact W.zret hx hb hr (b2_z _) (fun t ht hW => ⟨rfl, ht⟩) (fun _ h => nomatch h) dX6_isTooTense_40
  · skip
    refine lv_iload_n hx hb dX6_isTooTense_10 rfl (lv_at hl 1 rfl) ?_
    refine cutL (σ := Int32) (n := 3) (pc1 := 32) (fun r => r = b2 (fBears f (i + 1) = false)) (fun r => [(2, .int (nI i)), (1, .int acc), (0, .ref a)]) (fun r => [.int r]) ?_ (fun J32 => ?_)
    · rintro r ls hI hl
      have hl : lv_has ls 3 [(2, .int (nI i)), (1, .int acc), (0, .ref a)] := hl
      replace hI : r = b2 (fBears f (i + 1) = false) := hI
      have hm := hI
      refine tS (st' := [.int r]) rfl ?_
      refine lv_istore_n (lv' := [(1, .int r), (2, .int (nI i)), (0, .ref a)]) hx hb dX6_isTooTense_32 rfl hl (by decide) rfl (fun ls hl => ?_)
      refine lv_iinc (v := nI (i + 1)) (lv' := [(2, .int (nI (i + 1))), (1, .int r), (0, .ref a)]) hx hb dX6_isTooTense_33 hl (k := 1) rfl (nI_inc1 _) (by decide) rfl (fun ls hl => ?_)
      refine lv_goto (tgt := 4) hx hb dX6_isTooTense_36 (by decide) ?_
      exact ih4 ((i + 1), r) _ ⟨by omega, hm⟩ (lv_sub hl [0, 1, 2] rfl) (by (try dsimp only); omega)
    · skip
      refine lv_if_ne (tgt := 27) hx hb dX6_isTooTense_11 (by decide) (fun c11 => ?_) (fun c11 => ?_)
      · skip
        refine lv_iconst (v := nI 1) hx hb dX6_isTooTense_27 (by decide +kernel) ?_
        refine lv_goto (tgt := 32) hx hb dX6_isTooTense_28 (by decide) ?_
        exact J32 (nI 1) _ (by (try rw [ha] at c7); (try rw [ha] at c11); (try simp only [i_lt, Classical.not_not, b2_0, b2_1] at c7); (try simp only [i_lt, Classical.not_not, b2_0, b2_1] at c11); simp [b2, fBears, c7, c11]) (lv_sub hl [0, 1, 2] rfl)
      · skip
        refine lv_aload_n hx hb dX6_isTooTense_14 rfl (lv_at hl 2 rfl) ?_
        refine lv_iload_n hx hb dX6_isTooTense_15 rfl (lv_at hl 0 rfl) ?_
        refine pcall (st1 := [.int (fTen f i)]) (va_runS (As := [.ref a, .int (nI i)]) (rest := []) ⟨hx, hb, hml, hown, hts⟩ (c_X6_tension l G a f hs i (by omega)) (va_cwS 2 hts gX6_isTooTense_X6_tension rfl rfl rfl (by decide +kernel) ⟨Nat.le_of_ble_eq_true rfl, Nat.le_of_ble_eq_true rfl⟩) (PC.preS hE (hP.sub [0] rfl)) rfl rfl hl.1 rfl (lv_room (Nat.le_of_ble_eq_true rfl)) dX6_isTooTense_16 ⟨Nat.zero_le _, Nat.zero_le _⟩) rfl ?_
        refine lv_aload_n hx hb dX6_isTooTense_19 rfl (lv_at hl 2 rfl) ?_
        refine lv_iload_n hx hb dX6_isTooTense_20 rfl (lv_at hl 0 rfl) ?_
        refine pcall (st1 := [.int (fStr f i), .int (fTen f i)]) (va_runS (As := [.ref a, .int (nI i)]) (rest := [.int (fTen f i)]) ⟨hx, hb, hml, hown, hts⟩ (c_X6_strength l G a f i (by omega)) (va_cwS 2 hts gX6_isTooTense_X6_strength rfl rfl rfl (by decide +kernel) ⟨Nat.le_of_ble_eq_true rfl, Nat.le_of_ble_eq_true rfl⟩) (PC.preS hE (hP.sub [0] rfl)) rfl rfl hl.1 rfl (lv_room (Nat.le_of_ble_eq_true rfl)) dX6_isTooTense_21 ⟨Nat.zero_le _, Nat.zero_le _⟩) rfl ?_
        refine lv_icmp_le (tgt := 31) hx hb dX6_isTooTense_24 (by decide) (fun c24 => ?_) (fun c24 => ?_)
        · skip
          refine lv_iconst (v := nI 0) hx hb dX6_isTooTense_31 (by decide +kernel) ?_
          exact J32 (nI 0) _ (by (try rw [ha] at c7); (try rw [ha] at c11); (try rw [ha] at c24); (try simp only [i_lt, Classical.not_not, b2_0, b2_1] at c7); (try simp only [i_lt, Classical.not_not, b2_0, b2_1] at c11); (try simp only [i_lt, Classical.not_not, b2_0, b2_1] at c24); simp [b2, fBears, c7, c11, c24]) (lv_sub hl [0, 1, 2] rfl)
        · skip
          refine lv_iconst (v := nI 1) hx hb dX6_isTooTense_27 (by decide +kernel) ?_
          refine lv_goto (tgt := 32) hx hb dX6_isTooTense_28 (by decide) ?_
          exact J32 (nI 1) _ (by (try rw [ha] at c7); (try rw [ha] at c11); (try rw [ha] at c24); (try simp only [i_lt, Classical.not_not, b2_0, b2_1] at c7); (try simp only [i_lt, Classical.not_not, b2_0, b2_1] at c11); (try simp only [i_lt, Classical.not_not, b2_0, b2_1] at c24); simp [b2, fBears, c7, c11, c24]) (lv_sub hl [0, 1, 2] rfl)
set_option maxHeartbeats 4000000 in
set_option maxRecDepth 100000 in
theorem c_X6_reason (l : Launch) (G : eG) (a : Nat) (f : Nat → Int32) (hs : Shp f) : Met l yX6_reason wsX6_reason ({ frames := 5, cells := 0, slots := 0, locals := 109 }) (PC [.ref a] G (fun H => va_P G.1 vwCl [(a, .inl (G.2.1, 97, .inl f))] H)) (PQ (some (.int (fRsn f)))) 0 0 noA := by
  refine ofB (cc := cX6_reason) (maxL := 1) (ret := (some .int)) (by decide) rfl (Nat.le_of_ble_eq_true rfl) ?_
  intro p e s m below meth c hx hb hr hlocks hml hown hin hts hE hI ls hl
  replace hown : s.vm.findClass RX6 = some m.cls := hown
  have hl : lv_has ls 1 [(0, .ref a)] := hl
  have hP : va_P G.1 vwCl [(a, .inl (G.2.1, 97, .inl f))] s.heap := hI
  skip
  refine lv_aload_n hx hb dX6_reason_0 rfl (lv_at hl 0 rfl) ?_
  refine pcall (st1 := [.int (fLst f)]) (va_runS (As := [.ref a]) (rest := []) ⟨hx, hb, hml, hown, hts⟩ (c_X6_list l G a f hs) (va_cwS 1 hts gX6_reason_X6_list rfl rfl rfl (by decide +kernel) ⟨Nat.le_of_ble_eq_true rfl, Nat.le_of_ble_eq_true rfl⟩) (PC.preS hE (hP.sub [0] rfl)) rfl rfl hl.1 rfl (lv_room (Nat.le_of_ble_eq_true rfl)) dX6_reason_1 ⟨Nat.zero_le _, Nat.zero_le _⟩) rfl ?_
  refine lv_aload_n hx hb dX6_reason_4 rfl (lv_at hl 0 rfl) ?_
  refine lv_iconst (v := nI 1) hx hb dX6_reason_5 (by decide +kernel) ?_
  refine ialdN (k := 1) hx hb hE.1 hP 0 0 rfl rfl (by omega) (by decide) dX6_reason_6 ?_
  refine cutL (σ := Int32) (n := 1) (pc1 := 39) (fun r => r = fRsn f) (fun r => [(0, .ref a)]) (fun r => [.int r]) ?_ (fun J39 => ?_)
  · rintro r ls hI hl
    replace hI : r = fRsn f := hI
    subst hI
    have hl : lv_has ls 1 [(0, .ref a)] := hl
    refine tS (st' := [.int (fRsn f)]) rfl ?_
    exact W.iret hx hb hr (fun t ht hW => ⟨rfl, ht⟩) (fun _ h => nomatch h) dX6_reason_39
  · skip
    refine lv_icmp_le (tgt := 14) hx hb dX6_reason_7 (by decide) (fun c7 => ?_) (fun c7 => ?_)
    · skip
      refine lv_aload_n hx hb dX6_reason_14 rfl (lv_at hl 0 rfl) ?_
      refine lv_bipush (v := nI 47) hx hb dX6_reason_15 (by decide +kernel) ?_
      refine ialdN (k := 47) hx hb hE.1 hP 0 0 rfl rfl (by omega) (by decide) dX6_reason_17 ?_
      refine lv_bipush (v := nI 25) hx hb dX6_reason_18 (by decide +kernel) ?_
      refine lv_icmp_le (tgt := 27) hx hb dX6_reason_20 (by decide) (fun c20 => ?_) (fun c20 => ?_)
      · skip
        refine lv_aload_n hx hb dX6_reason_27 rfl (lv_at hl 0 rfl) ?_
        refine pcall (st1 := [.int (b2 (fBears f 20 = false))]) (va_runS (As := [.ref a]) (rest := []) ⟨hx, hb, hml, hown, hts⟩ (c_X6_isTooTense l G a f hs) (va_cwS 1 hts gX6_reason_X6_isTooTense rfl rfl rfl (by decide +kernel) ⟨Nat.le_of_ble_eq_true rfl, Nat.le_of_ble_eq_true rfl⟩) (PC.preS hE (hP.sub [0] rfl)) rfl rfl hl.1 rfl (lv_room (Nat.le_of_ble_eq_true rfl)) dX6_reason_28 ⟨Nat.zero_le _, Nat.zero_le _⟩) rfl ?_
        refine lv_if_eq (tgt := 38) hx hb dX6_reason_31 (by decide) (fun c31 => ?_) (fun c31 => ?_)
        · skip
          refine lv_iconst (v := nI 0) hx hb dX6_reason_38 (by decide +kernel) ?_
          exact J39 (nI 0) _ (by (try simp only [i_lt, Classical.not_not, b2_0, b2_1] at c7); (try simp only [i_lt, Classical.not_not, b2_0, b2_1] at c20); (try simp only [i_lt, Classical.not_not, b2_0, b2_1] at c31); simp [b2, fRsn, c7, c20, c31]) (lv_sub hl [0] rfl)
        · skip
          refine lv_iconst (v := nI 3) hx hb dX6_reason_34 (by decide +kernel) ?_
          refine lv_goto (tgt := 39) hx hb dX6_reason_35 (by decide) ?_
          exact J39 (nI 3) _ (by (try simp only [i_lt, Classical.not_not, b2_0, b2_1] at c7); (try simp only [i_lt, Classical.not_not, b2_0, b2_1] at c20); (try simp only [i_lt, Classical.not_not, b2_0, b2_1] at c31); simp [b2, fRsn, c7, c20, c31]) (lv_sub hl [0] rfl)
      · skip
        refine lv_iconst (v := nI 2) hx hb dX6_reason_23 (by decide +kernel) ?_
        refine lv_goto (tgt := 39) hx hb dX6_reason_24 (by decide) ?_
        exact J39 (nI 2) _ (by (try simp only [i_lt, Classical.not_not, b2_0, b2_1] at c7); (try simp only [i_lt, Classical.not_not, b2_0, b2_1] at c20); simp [b2, fRsn, c7, c20]) (lv_sub hl [0] rfl)
    · skip
      refine lv_iconst (v := nI 1) hx hb dX6_reason_10 (by decide +kernel) ?_
      refine lv_goto (tgt := 39) hx hb dX6_reason_11 (by decide) ?_
      exact J39 (nI 1) _ (by (try simp only [i_lt, Classical.not_not, b2_0, b2_1] at c7); simp [b2, fRsn, c7]) (lv_sub hl [0] rfl)

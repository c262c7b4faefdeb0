set_option maxHeartbeats 4000000 in
set_option maxRecDepth 100000 in
theorem c_X6_stretches (l : Launch) (G : eG) (a : Nat) (f : Nat → Int32) (t : Int32) (x sl : Nat) (hx1 : f 48 + t = nI x) (hx2 : x < 1000000) (hs1 : f 47 = nI sl) (hs2 : sl ≤ 30) : Met l yX6_stretches wsX6_stretches ({ frames := 0, cells := 0, slots := 0, locals := 0 }) (PC [.ref a, .int t] G (fun H => va_P G.1 vwCl [(a, .inl (G.2.1, 97, .inl f))] H ∧ va_D (fun _ => True) [(a, .inl (G.2.1, 97, .inl f))])) (MV (none) (fun H => va_P G.1 vwCl [(a, .inl (G.2.1, 97, .inl (fStc f x sl)))] H ∧ va_D (inW [(a, .inl (G.2.1, 97, .inl f))]) [(a, .inl (G.2.1, 97, .inl (fStc f x sl)))]) (inW [(a, .inl (G.2.1, 97, .inl f))])) 0 0 (inW [(a, .inl (G.2.1, 97, .inl f))]) := by
  refine ofB (cc := cX6_stretches) (maxL := 2) (ret := none) (by decide) rfl (Nat.le_of_ble_eq_true rfl) ?_
  intro p e s m below meth c hx hb hr hlocks hml hown hin hts hE hI ls hl
  replace hown : s.vm.findClass RX6 = some m.cls := hown
  have hl : lv_has ls 2 [(0, .ref a), (1, .int t)] := hl
  obtain ⟨hP, hD0⟩ := hI
  have hD : va_D (inW [(a, .inl (G.2.1, 97, .inl f))]) [(a, .inl (G.2.1, 97, .inl f))] := D_self hD0
  obtain ⟨A, hAe⟩ : ∃ A, A = inW [(a, .inl (G.2.1, 97, .inl f))] := ⟨_, rfl⟩
  rw [← hAe] at hD ⊢
  have hS : va_S A s.heap s.heap [] := va_S.rf
  obtain ⟨H, hHe⟩ : ∃ H, H = s.heap := ⟨_, rfl⟩
  obtain ⟨locs, hle⟩ : ∃ q : List Loc, q = [] := ⟨_, rfl⟩
  rw [← hle] at hS ⊢
  have hP : va_P G.1 vwCl [(a, .inl (G.2.1, 97, .inl f))] H := by rw [hHe]; exact hP
  replace hS : va_S A s.heap H locs := by rw [hHe]; exact hS
  refine tH hHe ?_
  skip
  refine lv_aload_n hx hb dX6_stretches_0 rfl (lv_at hl 0 rfl) ?_
  refine lv_bipush (v := nI 48) hx hb dX6_stretches_1 (by decide +kernel) ?_
  refine lv_dup2_11 hx hb dX6_stretches_3 rfl rfl ?_
  refine ialdN (k := 48) hx hb hE.1 hP 0 0 rfl rfl (by omega) (by decide) dX6_stretches_4 ?_
  refine lv_iload_n hx hb dX6_stretches_5 rfl (lv_at hl 1 rfl) ?_
  refine lv_iadd hx hb dX6_stretches_6 ?_
  refine iastN (k := 48) hx hb hE.1 hP hD hS 0 0 rfl rfl (by omega) (by decide) dX6_stretches_7 (fun H locs hP hD hS => ?_)
  have hP : va_P G.1 vwCl [(a, .inl (G.2.1, 97, .inl (upd f 48 ((f 48) + t))))] H := hP
  have hD : va_D A [(a, .inl (G.2.1, 97, .inl (upd f 48 ((f 48) + t))))] := hD
  refine loopH (σ := Nat × Nat) (n := 2) (pc1 := 8) (fun (z_ : Nat × Nat) => match z_ with | (y, s2) => y) (fun (z_ : Nat × Nat) => match z_ with | (y, s2) => s2 ≤ 30 ∧ y < 1000000 ∧ y % 500 = x % 500 ∧ min 30 (s2 + y / 500) = min 30 (sl + x / 500)) (fun (z_ : Nat × Nat) => match z_ with | (y, s2) => fun (H : Heap) (locs : List Loc) => va_P G.1 vwCl [(a, .inl (G.2.1, 97, .inl (upd (upd f 48 (nI y)) 47 (nI s2))))] H ∧ va_D A [(a, .inl (G.2.1, 97, .inl (upd (upd f 48 (nI y)) 47 (nI s2))))] ∧ va_S A s.heap H locs) (fun (z_ : Nat × Nat) => match z_ with | (y, s2) => [(0, .ref a), (1, .int t)]) (fun (z_ : Nat × Nat) => match z_ with | (y, s2) => []) ?_ (x, sl) H _ _ ⟨hs2, hx2, rfl, rfl⟩ (by (try dsimp only); rw [stc_0 hx1 hs1]; exact ⟨hP, hD, hS⟩) (lv_sub hl [0, 1] rfl)
  rintro ⟨y, s2⟩ H locs ls hI ⟨hP, hD, hS⟩ hl ih8
  have hl : lv_has ls 2 [(0, .ref a), (1, .int t)] := hl
  replace hI : s2 ≤ 30 ∧ y < 1000000 ∧ y % 500 = x % 500 ∧ min 30 (s2 + y / 500) = min 30 (sl + x / 500) := hI
  obtain ⟨i1, i2, i3, i4⟩ := hI
  have hP : va_P G.1 vwCl [(a, .inl (G.2.1, 97, .inl (upd (upd f 48 (nI y)) 47 (nI s2))))] H := hP
  have hD : va_D A [(a, .inl (G.2.1, 97, .inl (upd (upd f 48 (nI y)) 47 (nI s2))))] := hD
  refine tS (st' := []) rfl ?_
  refine lv_aload_n hx hb dX6_stretches_8 rfl (lv_at hl 0 rfl) ?_
  refine lv_bipush (v := nI 48) hx hb dX6_stretches_9 (by decide +kernel) ?_
  refine ialdN (k := 48) hx hb hE.1 hP 0 0 rfl rfl (by omega) (by decide) dX6_stretches_11 ?_
  refine tI (y := nI y) (((pk_un (by omega))).trans (pk_us)) ?_
  refine lv_sipush (v := nI 500) hx hb dX6_stretches_12 (by decide +kernel) ?_
  refine icmp_ltN (tgt := 52) hx hb (by omega) (by omega) dX6_stretches_15 (by decide) (fun c15 => ?_) (fun c15 => ?_)
  · skip
    exact W.vret hx hb hr (fun t ht hW => ⟨rfl, by rw [ht]; exact (by rw [show y = x % 500 by omega, show s2 = min 30 (sl + x / 500) by omega] at hP hD; exact ⟨hP, hD⟩), hS.F ht⟩) hS.2.2 dX6_stretches_52
  · skip
    refine lv_aload_n hx hb dX6_stretches_18 rfl (lv_at hl 0 rfl) ?_
    refine lv_bipush (v := nI 48) hx hb dX6_stretches_19 (by decide +kernel) ?_
    refine lv_dup2_11 hx hb dX6_stretches_21 rfl rfl ?_
    refine ialdN (k := 48) hx hb hE.1 hP 0 0 rfl rfl (by omega) (by decide) dX6_stretches_22 ?_
    refine tI (y := nI y) (((pk_un (by omega))).trans (pk_us)) ?_
    refine lv_sipush (v := nI 500) hx hb dX6_stretches_23 (by decide +kernel) ?_
    refine isubN hx hb (by omega) dX6_stretches_26 ?_
    refine iastN (k := 48) hx hb hE.1 hP hD hS 0 0 rfl rfl (by omega) (by decide) dX6_stretches_27 (fun H locs hP hD hS => ?_)
    have hP : va_P G.1 vwCl [(a, .inl (G.2.1, 97, .inl (upd (upd (upd f 48 (nI y)) 47 (nI s2)) 48 (nI (y - 500)))))] H := hP
    have hD : va_D A [(a, .inl (G.2.1, 97, .inl (upd (upd (upd f 48 (nI y)) 47 (nI s2)) 48 (nI (y - 500)))))] := hD
    refine lv_aload_n hx hb dX6_stretches_28 rfl (lv_at hl 0 rfl) ?_
    refine lv_bipush (v := nI 47) hx hb dX6_stretches_29 (by decide +kernel) ?_
    refine lv_dup2_11 hx hb dX6_stretches_31 rfl rfl ?_
    refine ialdN (k := 47) hx hb hE.1 hP 0 0 rfl rfl (by omega) (by decide) dX6_stretches_32 ?_
    refine tI (y := nI s2) (((pk_un (by omega))).trans (pk_us)) ?_
    refine lv_aload_n hx hb dX6_stretches_33 rfl (lv_at hl 0 rfl) ?_
    refine lv_bipush (v := nI 47) hx hb dX6_stretches_34 (by decide +kernel) ?_
    refine ialdN (k := 47) hx hb hE.1 hP 0 0 rfl rfl (by omega) (by decide) dX6_stretches_36 ?_
    refine tI (y := nI s2) (((pk_un (by omega))).trans (pk_us)) ?_
    refine lv_bipush (v := nI 30) hx hb dX6_stretches_37 (by decide +kernel) ?_
    refine cutL (σ := Nat) (n := 2) (pc1 := 47) (fun q => (30 ≤ s2 ∧ q = 0) ∨ (s2 < 30 ∧ q = 1)) (fun q => [(0, .ref a), (1, .int t)]) (fun q => [.int (nI q), .int (nI s2), .int (nI 47), .ref a]) ?_ (fun J47 => ?_)
    · rintro q ls hI hl
      have hl : lv_has ls 2 [(0, .ref a), (1, .int t)] := hl
      replace hI : (30 ≤ s2 ∧ q = 0) ∨ (s2 < 30 ∧ q = 1) := hI
      refine tS (st' := [.int (nI q), .int (nI s2), .int (nI 47), .ref a]) rfl ?_
      refine iaddN hx hb dX6_stretches_47 ?_
      refine iastN (k := 47) hx hb hE.1 hP hD hS 0 0 rfl rfl (by omega) (by decide) dX6_stretches_48 (fun H locs hP hD hS => ?_)
      have hP : va_P G.1 vwCl [(a, .inl (G.2.1, 97, .inl (upd (upd (upd (upd f 48 (nI y)) 47 (nI s2)) 48 (nI (y - 500))) 47 (nI (s2 + q)))))] H := hP
      have hD : va_D A [(a, .inl (G.2.1, 97, .inl (upd (upd (upd (upd f 48 (nI y)) 47 (nI s2)) 48 (nI (y - 500))) 47 (nI (s2 + q)))))] := hD
      refine lv_goto (tgt := 8) hx hb dX6_stretches_49 (by decide) ?_
      exact ih8 ((y - 500), (s2 + q)) _ _ _ ⟨by omega, by omega, by omega, by omega⟩ (by (try dsimp only); rw [stc_s] at hP hD; exact ⟨hP, hD, hS⟩) (lv_sub hl [0, 1] rfl) (by (try dsimp only); omega)
    · skip
      refine icmp_geN (tgt := 46) hx hb (by omega) (by omega) dX6_stretches_39 (by decide) (fun c39 => ?_) (fun c39 => ?_)
      · skip
        refine lv_iconst (v := nI 0) hx hb dX6_stretches_46 (by decide +kernel) ?_
        exact J47 0 _ (by omega) (lv_sub hl [0, 1] rfl)
      · skip
        refine lv_iconst (v := nI 1) hx hb dX6_stretches_42 (by decide +kernel) ?_
        refine lv_goto (tgt := 47) hx hb dX6_stretches_43 (by decide) ?_
        exact J47 1 _ (by omega) (lv_sub hl [0, 1] rfl)
set_option maxHeartbeats 4000000 in
set_option maxRecDepth 100000 in
theorem c_X6_crosses (l : Launch) (G : eG) (a : Nat) (f : Nat → Int32) (hs : Shp f) (hc : Cro f) : Met l yX6_crosses wsX6_crosses ({ frames := 4, cells := 0, slots := 0, locals := 87 }) (PC [.ref a] G (fun H => va_P G.1 vwCl [(a, .inl (G.2.1, 97, .inl f))] H ∧ va_D (fun _ => True) [(a, .inl (G.2.1, 97, .inl f))])) (MV (some (.int (nI (fHrs f)))) (fun H => va_P G.1 vwCl [(a, .inl (G.2.1, 97, .inl (fCrs f)))] H ∧ va_D (inW [(a, .inl (G.2.1, 97, .inl f))]) [(a, .inl (G.2.1, 97, .inl (fCrs f)))]) (inW [(a, .inl (G.2.1, 97, .inl f))])) 0 0 (inW [(a, .inl (G.2.1, 97, .inl f))]) := by
  refine ofB (cc := cX6_crosses) (maxL := 5) (ret := (some .int)) (by decide) rfl (Nat.le_of_ble_eq_true rfl) ?_
  intro p e s m below meth c hx hb hr hlocks hml hown hin hts hE hI ls hl
  replace hown : s.vm.findClass RX6 = some m.cls := hown
  have hl : lv_has ls 5 [(0, .ref a)] := hl
  obtain ⟨hP, hD0⟩ := hI
  have hD : va_D (inW [(a, .inl (G.2.1, 97, .inl f))]) [(a, .inl (G.2.1, 97, .inl f))] := D_self hD0
  obtain ⟨A, hAe⟩ : ∃ A, A = inW [(a, .inl (G.2.1, 97, .inl f))] := ⟨_, rfl⟩
  rw [← hAe] at hD ⊢
  have hS : va_S A s.heap s.heap [] := va_S.rf
  obtain ⟨H, hHe⟩ : ∃ H, H = s.heap := ⟨_, rfl⟩
  obtain ⟨locs, hle⟩ : ∃ q : List Loc, q = [] := ⟨_, rfl⟩
  rw [← hle] at hS ⊢
  have hP : va_P G.1 vwCl [(a, .inl (G.2.1, 97, .inl f))] H := by rw [hHe]; exact hP
  replace hS : va_S A s.heap H locs := by rw [hHe]; exact hS
  refine tH hHe ?_
  obtain ⟨x1, x2, x3, x4⟩ := hc
  obtain ⟨h2, h2a, h2b⟩ := hs.2.2.2.2
  refine lv_iconst (v := nI 0) hx hb dX6_crosses_0 (by decide +kernel) ?_
  refine lv_istore_n (lv' := [(1, .int (nI 0)), (0, .ref a)]) hx hb dX6_crosses_1 rfl hl (by decide) rfl (fun ls hl => ?_)
  refine lv_iconst (v := nI 0) hx hb dX6_crosses_2 (by decide +kernel) ?_
  refine lv_istore_n (lv' := [(2, .int (nI 0)), (1, .int (nI 0)), (0, .ref a)]) hx hb dX6_crosses_3 rfl hl (by decide) rfl (fun ls hl => ?_)
  refine loopH (σ := Nat × Int32) (n := 5) (pc1 := 4) (fun (z_ : Nat × Int32) => match z_ with | (i, acc) => 20 - i) (fun (z_ : Nat × Int32) => match z_ with | (i, acc) => i ≤ 20 ∧ acc = sumI (fTen f) i) (fun (z_ : Nat × Int32) => match z_ with | (i, acc) => fun (H : Heap) (locs : List Loc) => va_P G.1 vwCl [(a, .inl (G.2.1, 97, .inl (crW f i)))] H ∧ va_D A [(a, .inl (G.2.1, 97, .inl (crW f i)))] ∧ va_S A s.heap H locs) (fun (z_ : Nat × Int32) => match z_ with | (i, acc) => [(2, .int (nI i)), (1, .int acc), (0, .ref a)]) (fun (z_ : Nat × Int32) => match z_ with | (i, acc) => []) ?_ (0, nI 0) H _ _ ⟨Nat.zero_le _, rfl⟩ (by (try dsimp only); rw [crW_0]; exact ⟨hP, hD, hS⟩) (lv_sub hl [0, 1, 2] rfl)
  rintro ⟨i, acc⟩ H locs ls hI ⟨hP, hD, hS⟩ hl ih4
  have hl : lv_has ls 5 [(2, .int (nI i)), (1, .int acc), (0, .ref a)] := hl
  replace hI : i ≤ 20 ∧ acc = sumI (fTen f) i := hI
  obtain ⟨hi, ha⟩ := hI
  have haw := aw_crW (f := f) hi
  have hsi := shp_c haw hs
  have hP : va_P G.1 vwCl [(a, .inl (G.2.1, 97, .inl (crW f i)))] H := hP
  have hD : va_D A [(a, .inl (G.2.1, 97, .inl (crW f i)))] := hD
  refine tS (st' := []) rfl ?_
  refine lv_iload_n hx hb dX6_crosses_4 rfl (lv_at hl 0 rfl) ?_
  refine lv_bipush (v := nI 20) hx hb dX6_crosses_5 (by decide +kernel) ?_
  refine icmp_geN (tgt := 62) hx hb (by omega) (by omega) dX6_crosses_7 (by decide) (fun c7 => ?_) (fun c7 => ?_)
  · skip
    have hj : i = 20 := by omega
    rw [hj] at hP hD
    refine lv_aload_n hx hb dX6_crosses_62 rfl (lv_at hl 2 rfl) ?_
    refine lv_iload_n hx hb dX6_crosses_63 rfl (lv_at hl 1 rfl) ?_
    have hPc := hP.sub (ws' := [(a, .inl (G.2.1, 97, .inl (crW f 20)))]) [0] rfl
    have hDc := hD.sub (ws' := [(a, .inl (G.2.1, 97, .inl (crW f 20)))]) [0] (by decide) rfl
    refine mcall (st1 := []) (va_runS (As := [.ref a, .int acc]) (rest := []) ⟨hx, hb, hml, hown, hts⟩ (c_X6_stretches l G a (crW f 20) acc (fX f) (nn f 47) (by rw [crW_o (by omega), ha, hj]; exact x1) x2 (by rw [crW_o (by omega)]; exact x3) x4) (va_cwS 2 hts gX6_crosses_X6_stretches rfl rfl rfl (by decide +kernel) ⟨Nat.le_of_ble_eq_true rfl, Nat.le_of_ble_eq_true rfl⟩) (PC.preS hE ⟨hPc, hDc.weaken (fun _ _ _ _ => trivial)⟩) rfl rfl hl.1 rfl (lv_room (Nat.le_of_ble_eq_true rfl)) dX6_crosses_64 ⟨Nat.zero_le _, Nat.zero_le _⟩) hS (fun q _ h => inW_D hDc q h) (fun q h => inW_D hDc q h) rfl (fun H1 locs1 hB hz1 hk1 hS => ?_)
    obtain ⟨hP1, hD1⟩ := hB
    obtain ⟨hP, hD⟩ := jnW (wr := []) (w1 := [(a, .inl (G.2.1, 97, .inl (fC1 f)))]) hP hD [0] [] rfl rfl (by decide) (by decide) hk1 hP1 hD1
    generalize H1 = H at hP hS ⊢
    have hP : va_P G.1 vwCl [(a, .inl (G.2.1, 97, .inl (fC1 f)))] H := hP
    have hD : va_D A [(a, .inl (G.2.1, 97, .inl (fC1 f)))] := hD
    refine lv_iconst (v := nI 1) hx hb dX6_crosses_67 (by decide +kernel) ?_
    refine lv_aload_n hx hb dX6_crosses_68 rfl (lv_at hl 2 rfl) ?_
    refine lv_bipush (v := nI 47) hx hb dX6_crosses_69 (by decide +kernel) ?_
    refine ialdN (k := 47) hx hb hE.1 hP 0 0 rfl rfl (by omega) (by decide) dX6_crosses_71 ?_
    refine tI (y := nI (fSl f)) stc_47 ?_
    refine lv_bipush (v := nI 10) hx hb dX6_crosses_72 (by decide +kernel) ?_
    refine idivN hx hb (fSl_lt f) (by decide) (by decide) dX6_crosses_74 ?_
    refine iaddN hx hb dX6_crosses_75 ?_
    refine tI (y := nI (fHrs f)) (rfl) ?_
    refine lv_istore_n (lv' := [(2, .int (nI (fHrs f))), (1, .int acc), (0, .ref a)]) hx hb dX6_crosses_76 rfl hl (by decide) rfl (fun ls hl => ?_)
    refine lv_aload_n hx hb dX6_crosses_77 rfl (lv_at hl 2 rfl) ?_
    refine lv_iload_n hx hb dX6_crosses_78 rfl (lv_at hl 0 rfl) ?_
    have hPc := hP.sub (ws' := [(a, .inl (G.2.1, 97, .inl (fC1 f)))]) [0] rfl
    have hDc := hD.sub (ws' := [(a, .inl (G.2.1, 97, .inl (fC1 f)))]) [0] (by decide) rfl
    refine mcall (st1 := []) (va_runS (As := [.ref a, .int (nI (fHrs f))]) (rest := []) ⟨hx, hb, hml, hown, hts⟩ (c_X6_passes l G a (fC1 f) (nI (fHrs f))) (va_cwS 2 hts gX6_crosses_X6_passes rfl rfl rfl (by decide +kernel) ⟨Nat.le_of_ble_eq_true rfl, Nat.le_of_ble_eq_true rfl⟩) (PC.preS hE ⟨hPc, hDc.weaken (fun _ _ _ _ => trivial)⟩) rfl rfl hl.1 rfl (lv_room (Nat.le_of_ble_eq_true rfl)) dX6_crosses_79 ⟨Nat.zero_le _, Nat.zero_le _⟩) hS (fun q _ h => inW_D hDc q h) (fun q h => inW_D hDc q h) rfl (fun H1 locs1 hB hz1 hk1 hS => ?_)
    obtain ⟨hP1, hD1⟩ := hB
    obtain ⟨hP, hD⟩ := jnW (wr := []) (w1 := [(a, .inl (G.2.1, 97, .inl (fPas (fC1 f) (nI (fHrs f)))))]) hP hD [0] [] rfl rfl (by decide) (by decide) hk1 hP1 hD1
    generalize H1 = H at hP hS ⊢
    have hP : va_P G.1 vwCl [(a, .inl (G.2.1, 97, .inl (fPas (fC1 f) (nI (fHrs f)))))] H := hP
    have hD : va_D A [(a, .inl (G.2.1, 97, .inl (fPas (fC1 f) (nI (fHrs f)))))] := hD
    refine lv_aload_n hx hb dX6_crosses_82 rfl (lv_at hl 2 rfl) ?_
    refine lv_bipush (v := nI 51) hx hb dX6_crosses_83 (by decide +kernel) ?_
    refine lv_iconst (v := nI 1) hx hb dX6_crosses_85 (by decide +kernel) ?_
    refine lv_aload_n hx hb dX6_crosses_86 rfl (lv_at hl 2 rfl) ?_
    refine lv_bipush (v := nI 51) hx hb dX6_crosses_87 (by decide +kernel) ?_
    refine ialdN (k := 51) hx hb hE.1 hP 0 0 rfl rfl (by omega) (by decide) dX6_crosses_89 ?_
    refine tI (y := f 51) ((pas_o (by omega) (by omega)).trans (c1_o (by omega) (by omega) (by omega))) ?_
    refine lv_isub hx hb dX6_crosses_90 ?_
    refine iastN (k := 51) hx hb hE.1 hP hD hS 0 0 rfl rfl (by omega) (by decide) dX6_crosses_91 (fun H locs hP hD hS => ?_)
    have hP : va_P G.1 vwCl [(a, .inl (G.2.1, 97, .inl (upd (fPas (fC1 f) (nI (fHrs f))) 51 ((nI 1) - (f 51)))))] H := hP
    have hD : va_D A [(a, .inl (G.2.1, 97, .inl (upd (fPas (fC1 f) (nI (fHrs f))) 51 ((nI 1) - (f 51)))))] := hD
    refine lv_aload_n hx hb dX6_crosses_92 rfl (lv_at hl 2 rfl) ?_
    refine lv_bipush (v := nI 52) hx hb dX6_crosses_93 (by decide +kernel) ?_
    refine lv_dup2_11 hx hb dX6_crosses_95 rfl rfl ?_
    refine ialdN (k := 52) hx hb hE.1 hP 0 0 rfl rfl (by omega) (by decide) dX6_crosses_96 ?_
    refine tI (y := (fPas (fC1 f) (nI (fHrs f))) 52) ((pk_un (by omega))) ?_
    refine lv_iconst (v := nI 1) hx hb dX6_crosses_97 (by decide +kernel) ?_
    refine lv_iadd hx hb dX6_crosses_98 ?_
    refine iastN (k := 52) hx hb hE.1 hP hD hS 0 0 rfl rfl (by omega) (by decide) dX6_crosses_99 (fun H locs hP hD hS => ?_)
    have hP : va_P G.1 vwCl [(a, .inl (G.2.1, 97, .inl (upd (upd (fPas (fC1 f) (nI (fHrs f))) 51 ((nI 1) - (f 51))) 52 (((fPas (fC1 f) (nI (fHrs f))) 52) + (nI 1)))))] H := hP
    have hD : va_D A [(a, .inl (G.2.1, 97, .inl (upd (upd (fPas (fC1 f) (nI (fHrs f))) 51 ((nI 1) - (f 51))) 52 (((fPas (fC1 f) (nI (fHrs f))) 52) + (nI 1)))))] := hD
    refine lv_iload_n hx hb dX6_crosses_100 rfl (lv_at hl 0 rfl) ?_
    exact W.iret hx hb hr (fun t ht hW => ⟨rfl, by rw [ht]; exact ⟨hP, hD⟩, hS.F ht⟩) hS.2.2 dX6_crosses_101
  · skip
    refine lv_aload_n hx hb dX6_crosses_10 rfl (lv_at hl 2 rfl) ?_
    refine lv_iload_n hx hb dX6_crosses_11 rfl (lv_at hl 0 rfl) ?_
    refine pcall (st1 := [.int (fTen (crW f i) i)]) (va_runS (As := [.ref a, .int (nI i)]) (rest := []) ⟨hx, hb, hml, hown, hts⟩ (c_X6_tension l G a (crW f i) hsi i (by omega)) (va_cwS 2 hts gX6_crosses_X6_tension rfl rfl rfl (by decide +kernel) ⟨Nat.le_of_ble_eq_true rfl, Nat.le_of_ble_eq_true rfl⟩) (PC.preS hE (hP.sub [0] rfl)) rfl rfl hl.1 rfl (lv_room (Nat.le_of_ble_eq_true rfl)) dX6_crosses_12 ⟨Nat.zero_le _, Nat.zero_le _⟩) rfl ?_
    refine tI (y := fTen f i) (ten_c haw hs) ?_
    refine lv_istore_n (lv' := [(3, .int (fTen f i)), (2, .int (nI i)), (1, .int acc), (0, .ref a)]) hx hb dX6_crosses_15 rfl hl (by decide) rfl (fun ls hl => ?_)
    refine lv_aload_n hx hb dX6_crosses_16 rfl (lv_at hl 3 rfl) ?_
    refine lv_bipush (v := nI 27) hx hb dX6_crosses_17 (by decide +kernel) ?_
    refine lv_iload_n hx hb dX6_crosses_19 rfl (lv_at hl 1 rfl) ?_
    refine iaddN hx hb dX6_crosses_20 ?_
    refine ialdN (k := (27 + i)) hx hb hE.1 hP 0 0 rfl rfl (by omega) (by decide) dX6_crosses_21 ?_
    refine tI (y := f (27 + i)) (crW_o (by omega)) ?_
    refine lv_iload_n hx hb dX6_crosses_22 rfl (lv_at hl 0 rfl) ?_
    refine lv_aload_n hx hb dX6_crosses_23 rfl (lv_at hl 3 rfl) ?_
    refine lv_iconst (v := nI 2) hx hb dX6_crosses_24 (by decide +kernel) ?_
    refine ialdN (k := 2) hx hb hE.1 hP 0 0 rfl rfl (by omega) (by decide) dX6_crosses_25 ?_
    refine tI (y := f 2) (crW_o (by omega)) ?_
    refine lv_idiv hx hb dX6_crosses_26 (by rw [h2]; exact nI_nz (by omega) (by omega)) ?_
    refine lv_iadd hx hb dX6_crosses_27 ?_
    refine lv_istore (lv' := [(4, .int ((f (27 + i)) + ((fTen f i) / (f 2)))), (3, .int (fTen f i)), (2, .int (nI i)), (1, .int acc), (0, .ref a)]) hx hb dX6_crosses_28 hl (by decide) rfl (fun ls hl => ?_)
    refine lv_aload_n hx hb dX6_crosses_30 rfl (lv_at hl 4 rfl) ?_
    refine lv_bipush (v := nI 27) hx hb dX6_crosses_31 (by decide +kernel) ?_
    refine lv_iload_n hx hb dX6_crosses_33 rfl (lv_at hl 2 rfl) ?_
    refine iaddN hx hb dX6_crosses_34 ?_
    refine lv_iload hx hb dX6_crosses_35 (lv_at hl 0 rfl) ?_
    refine lv_sipush (v := nI 1000) hx hb dX6_crosses_37 (by decide +kernel) ?_
    refine cutL (σ := Int32) (n := 5) (pc1 := 51) (fun r => r = cap (f (27 + i) + fTen f i / f 2)) (fun r => [(4, .int ((f (27 + i)) + ((fTen f i) / (f 2)))), (3, .int (fTen f i)), (2, .int (nI i)), (1, .int acc), (0, .ref a)]) (fun r => [.int r, .int (nI (27 + i)), .ref a]) ?_ (fun J51 => ?_)
    · rintro r ls hI hl
      have hl : lv_has ls 5 [(4, .int ((f (27 + i)) + ((fTen f i) / (f 2)))), (3, .int (fTen f i)), (2, .int (nI i)), (1, .int acc), (0, .ref a)] := hl
      replace hI : r = cap (f (27 + i) + fTen f i / f 2) := hI
      have hm := hI
      refine tS (st' := [.int r, .int (nI (27 + i)), .ref a]) rfl ?_
      refine iastN (k := (27 + i)) hx hb hE.1 hP hD hS 0 0 rfl rfl (by omega) (by decide) dX6_crosses_51 (fun H locs hP hD hS => ?_)
      have hP : va_P G.1 vwCl [(a, .inl (G.2.1, 97, .inl (upd (crW f i) (27 + i) r)))] H := hP
      have hD : va_D A [(a, .inl (G.2.1, 97, .inl (upd (crW f i) (27 + i) r)))] := hD
      refine lv_iload_n hx hb dX6_crosses_52 rfl (lv_at hl 3 rfl) ?_
      refine lv_iload_n hx hb dX6_crosses_53 rfl (lv_at hl 1 rfl) ?_
      refine lv_iadd hx hb dX6_crosses_54 ?_
      refine lv_istore_n (lv' := [(1, .int (acc + (fTen f i))), (4, .int ((f (27 + i)) + ((fTen f i) / (f 2)))), (3, .int (fTen f i)), (2, .int (nI i)), (0, .ref a)]) hx hb dX6_crosses_55 rfl hl (by decide) rfl (fun ls hl => ?_)
      refine lv_iinc (v := nI (i + 1)) (lv' := [(2, .int (nI (i + 1))), (1, .int (acc + (fTen f i))), (4, .int ((f (27 + i)) + ((fTen f i) / (f 2)))), (3, .int (fTen f i)), (0, .ref a)]) hx hb dX6_crosses_56 hl (k := 3) rfl (nI_inc1 _) (by decide) rfl (fun ls hl => ?_)
      refine lv_goto (tgt := 4) hx hb dX6_crosses_59 (by decide) ?_
      exact ih4 ((i + 1), (acc + (fTen f i))) _ _ _ ⟨by omega, by rw [ha]; rfl⟩ (by (try dsimp only); rw [hm, crW_s] at hP hD; exact ⟨hP, hD, hS⟩) (lv_sub hl [0, 1, 4] rfl) (by (try dsimp only); omega)
    · skip
      refine lv_icmp_le (tgt := 49) hx hb dX6_crosses_40 (by decide) (fun c40 => ?_) (fun c40 => ?_)
      · skip
        refine lv_iload hx hb dX6_crosses_49 (lv_at hl 0 rfl) ?_
        exact J51 ((f (27 + i)) + ((fTen f i) / (f 2))) _ (by (try simp only [i_lt, Classical.not_not, b2_0, b2_1] at c7); (try simp only [i_lt, Classical.not_not, b2_0, b2_1] at c40); simp [b2, cap, c7, c40]) (lv_sub hl [0, 1, 2, 3, 4] rfl)
      · skip
        refine lv_sipush (v := nI 1000) hx hb dX6_crosses_43 (by decide +kernel) ?_
        refine lv_goto (tgt := 51) hx hb dX6_crosses_46 (by decide) ?_
        exact J51 (nI 1000) _ (by (try simp only [i_lt, Classical.not_not, b2_0, b2_1] at c7); (try simp only [i_lt, Classical.not_not, b2_0, b2_1] at c40); simp [b2, cap, c7, c40]) (lv_sub hl [0, 1, 2, 3, 4] rfl)
set_option maxHeartbeats 4000000 in
set_option maxRecDepth 100000 in
theorem c_X6_draws (l : Launch) (G : eG) (a : Nat) (f : Nat → Int32) (n : Nat) (hn : n ≤ 5) : Met l yX6_draws wsX6_draws ({ frames := 2, cells := 0, slots := 0, locals := 42 }) (PC [.ref a, .int (nI n)] G (fun H => va_P G.1 vwCl [(a, .inl (G.2.1, 97, .inl f))] H ∧ va_D (fun _ => True) [(a, .inl (G.2.1, 97, .inl f))])) (MV (some (.int (f 49 - nI n))) (fun H => va_P G.1 vwCl [(a, .inl (G.2.1, 97, .inl (fDrw f n)))] H ∧ va_D (inW [(a, .inl (G.2.1, 97, .inl f))]) [(a, .inl (G.2.1, 97, .inl (fDrw f n)))]) (inW [(a, .inl (G.2.1, 97, .inl f))])) 0 0 (inW [(a, .inl (G.2.1, 97, .inl f))]) := by
  refine ofB (cc := cX6_draws) (maxL := 3) (ret := (some .int)) (by decide) rfl (Nat.le_of_ble_eq_true rfl) ?_
  intro p e s m below meth c hx hb hr hlocks hml hown hin hts hE hI ls hl
  replace hown : s.vm.findClass RX6 = some m.cls := hown
  have hl : lv_has ls 3 [(0, .ref a), (1, .int (nI n))] := hl
  obtain ⟨hP, hD0⟩ := hI
  have hD : va_D (inW [(a, .inl (G.2.1, 97, .inl f))]) [(a, .inl (G.2.1, 97, .inl f))] := D_self hD0
  obtain ⟨A, hAe⟩ : ∃ A, A = inW [(a, .inl (G.2.1, 97, .inl f))] := ⟨_, rfl⟩
  rw [← hAe] at hD ⊢
  have hS : va_S A s.heap s.heap [] := va_S.rf
  obtain ⟨H, hHe⟩ : ∃ H, H = s.heap := ⟨_, rfl⟩
  obtain ⟨locs, hle⟩ : ∃ q : List Loc, q = [] := ⟨_, rfl⟩
  rw [← hle] at hS ⊢
  have hP : va_P G.1 vwCl [(a, .inl (G.2.1, 97, .inl f))] H := by rw [hHe]; exact hP
  replace hS : va_S A s.heap H locs := by rw [hHe]; exact hS
  refine tH hHe ?_
  skip
  refine lv_iconst (v := nI 0) hx hb dX6_draws_0 (by decide +kernel) ?_
  refine lv_istore_n (lv' := [(2, .int (nI 0)), (0, .ref a), (1, .int (nI n))]) hx hb dX6_draws_1 rfl hl (by decide) rfl (fun ls hl => ?_)
  refine loopH (σ := Nat) (n := 3) (pc1 := 2) (fun i => 20 - i) (fun i => i ≤ 20) (fun i => fun (H : Heap) (locs : List Loc) => va_P G.1 vwCl [(a, .inl (G.2.1, 97, .inl (drW f n i)))] H ∧ va_D A [(a, .inl (G.2.1, 97, .inl (drW f n i)))] ∧ va_S A s.heap H locs) (fun i => [(2, .int (nI i)), (0, .ref a), (1, .int (nI n))]) (fun i => []) ?_ (0) H _ _ (Nat.zero_le _) (by (try dsimp only); rw [drW_0]; exact ⟨hP, hD, hS⟩) (lv_sub hl [0, 1, 2] rfl)
  rintro i H locs ls hI ⟨hP, hD, hS⟩ hl ih2
  have hl : lv_has ls 3 [(2, .int (nI i)), (0, .ref a), (1, .int (nI n))] := hl
  replace hI : i ≤ 20 := hI
  have hP : va_P G.1 vwCl [(a, .inl (G.2.1, 97, .inl (drW f n i)))] H := hP
  have hD : va_D A [(a, .inl (G.2.1, 97, .inl (drW f n i)))] := hD
  refine tS (st' := []) rfl ?_
  refine lv_iload_n hx hb dX6_draws_2 rfl (lv_at hl 0 rfl) ?_
  refine lv_bipush (v := nI 20) hx hb dX6_draws_3 (by decide +kernel) ?_
  refine icmp_geN (tgt := 40) hx hb (by omega) (by omega) dX6_draws_5 (by decide) (fun c5 => ?_) (fun c5 => ?_)
  · skip
    have hj : i = 20 := by omega
    rw [hj] at hP hD
    refine lv_aload_n hx hb dX6_draws_40 rfl (lv_at hl 1 rfl) ?_
    refine lv_bipush (v := nI 49) hx hb dX6_draws_41 (by decide +kernel) ?_
    refine lv_dup2_11 hx hb dX6_draws_43 rfl rfl ?_
    refine ialdN (k := 49) hx hb hE.1 hP 0 0 rfl rfl (by omega) (by decide) dX6_draws_44 ?_
    refine tI (y := f 49) (drW_o (by omega)) ?_
    refine lv_iload_n hx hb dX6_draws_45 rfl (lv_at hl 2 rfl) ?_
    refine lv_isub hx hb dX6_draws_46 ?_
    refine iastN (k := 49) hx hb hE.1 hP hD hS 0 0 rfl rfl (by omega) (by decide) dX6_draws_47 (fun H locs hP hD hS => ?_)
    have hP : va_P G.1 vwCl [(a, .inl (G.2.1, 97, .inl (upd (drW f n 20) 49 ((f 49) - (nI n)))))] H := hP
    have hD : va_D A [(a, .inl (G.2.1, 97, .inl (upd (drW f n 20) 49 ((f 49) - (nI n)))))] := hD
    refine lv_aload_n hx hb dX6_draws_48 rfl (lv_at hl 1 rfl) ?_
    refine lv_bipush (v := nI 47) hx hb dX6_draws_49 (by decide +kernel) ?_
    refine lv_iconst (v := nI 0) hx hb dX6_draws_51 (by decide +kernel) ?_
    refine iastN (k := 47) hx hb hE.1 hP hD hS 0 0 rfl rfl (by omega) (by decide) dX6_draws_52 (fun H locs hP hD hS => ?_)
    have hP : va_P G.1 vwCl [(a, .inl (G.2.1, 97, .inl (upd (upd (drW f n 20) 49 ((f 49) - (nI n))) 47 (nI 0))))] H := hP
    have hD : va_D A [(a, .inl (G.2.1, 97, .inl (upd (upd (drW f n 20) 49 ((f 49) - (nI n))) 47 (nI 0))))] := hD
    refine lv_aload_n hx hb dX6_draws_53 rfl (lv_at hl 1 rfl) ?_
    refine lv_bipush (v := nI 48) hx hb dX6_draws_54 (by decide +kernel) ?_
    refine lv_iconst (v := nI 0) hx hb dX6_draws_56 (by decide +kernel) ?_
    refine iastN (k := 48) hx hb hE.1 hP hD hS 0 0 rfl rfl (by omega) (by decide) dX6_draws_57 (fun H locs hP hD hS => ?_)
    have hP : va_P G.1 vwCl [(a, .inl (G.2.1, 97, .inl (upd (upd (upd (drW f n 20) 49 ((f 49) - (nI n))) 47 (nI 0)) 48 (nI 0))))] H := hP
    have hD : va_D A [(a, .inl (G.2.1, 97, .inl (upd (upd (upd (drW f n 20) 49 ((f 49) - (nI n))) 47 (nI 0)) 48 (nI 0))))] := hD
    refine lv_aload_n hx hb dX6_draws_58 rfl (lv_at hl 1 rfl) ?_
    refine lv_iload_n hx hb dX6_draws_59 rfl (lv_at hl 2 rfl) ?_
    have hPc := hP.sub (ws' := [(a, .inl (G.2.1, 97, .inl (upd (upd (upd (drW f n 20) 49 ((f 49) - (nI n))) 47 (nI 0)) 48 (nI 0))))]) [0] rfl
    have hDc := hD.sub (ws' := [(a, .inl (G.2.1, 97, .inl (upd (upd (upd (drW f n 20) 49 ((f 49) - (nI n))) 47 (nI 0)) 48 (nI 0))))]) [0] (by decide) rfl
    refine mcall (st1 := []) (va_runS (As := [.ref a, .int (nI n)]) (rest := []) ⟨hx, hb, hml, hown, hts⟩ (c_X6_passes l G a (upd (upd (upd (drW f n 20) 49 ((f 49) - (nI n))) 47 (nI 0)) 48 (nI 0)) (nI n)) (va_cwS 2 hts gX6_draws_X6_passes rfl rfl rfl (by decide +kernel) ⟨Nat.le_of_ble_eq_true rfl, Nat.le_of_ble_eq_true rfl⟩) (PC.preS hE ⟨hPc, hDc.weaken (fun _ _ _ _ => trivial)⟩) rfl rfl hl.1 rfl (lv_room (Nat.le_of_ble_eq_true rfl)) dX6_draws_60 ⟨Nat.zero_le _, Nat.zero_le _⟩) hS (fun q _ h => inW_D hDc q h) (fun q h => inW_D hDc q h) rfl (fun H1 locs1 hB hz1 hk1 hS => ?_)
    obtain ⟨hP1, hD1⟩ := hB
    obtain ⟨hP, hD⟩ := jnW (wr := []) (w1 := [(a, .inl (G.2.1, 97, .inl (fPas (upd (upd (upd (drW f n 20) 49 ((f 49) - (nI n))) 47 (nI 0)) 48 (nI 0)) (nI n))))]) hP hD [0] [] rfl rfl (by decide) (by decide) hk1 hP1 hD1
    generalize H1 = H at hP hS ⊢
    have hP : va_P G.1 vwCl [(a, .inl (G.2.1, 97, .inl (fPas (upd (upd (upd (drW f n 20) 49 ((f 49) - (nI n))) 47 (nI 0)) 48 (nI 0)) (nI n))))] H := hP
    have hD : va_D A [(a, .inl (G.2.1, 97, .inl (fPas (upd (upd (upd (drW f n 20) 49 ((f 49) - (nI n))) 47 (nI 0)) 48 (nI 0)) (nI n))))] := hD
    refine lv_aload_n hx hb dX6_draws_63 rfl (lv_at hl 1 rfl) ?_
    refine lv_bipush (v := nI 49) hx hb dX6_draws_64 (by decide +kernel) ?_
    refine ialdN (k := 49) hx hb hE.1 hP 0 0 rfl rfl (by omega) (by decide) dX6_draws_66 ?_
    refine tI (y := f 49 - nI n) (by rw [pas_o (by omega) (by omega), pk_un (by omega), pk_un (by omega), pk_us]) ?_
    exact W.iret hx hb hr (fun t ht hW => ⟨rfl, by rw [ht]; exact ⟨hP, hD⟩, hS.F ht⟩) hS.2.2 dX6_draws_67
  · skip
    refine lv_aload_n hx hb dX6_draws_8 rfl (lv_at hl 1 rfl) ?_
    refine lv_bipush (v := nI 27) hx hb dX6_draws_9 (by decide +kernel) ?_
    refine lv_iload_n hx hb dX6_draws_11 rfl (lv_at hl 0 rfl) ?_
    refine iaddN hx hb dX6_draws_12 ?_
    refine lv_iload_n hx hb dX6_draws_13 rfl (lv_at hl 0 rfl) ?_
    refine lv_iload_n hx hb dX6_draws_14 rfl (lv_at hl 2 rfl) ?_
    refine iaddN hx hb dX6_draws_15 ?_
    refine lv_bipush (v := nI 20) hx hb dX6_draws_16 (by decide +kernel) ?_
    refine cutL (σ := Int32) (n := 3) (pc1 := 33) (fun r => r = if 27 + i + n < 47 then f (27 + i + n) else nI 0) (fun r => [(2, .int (nI i)), (0, .ref a), (1, .int (nI n))]) (fun r => [.int r, .int (nI (27 + i)), .ref a]) ?_ (fun J33 => ?_)
    · rintro r ls hI hl
      have hl : lv_has ls 3 [(2, .int (nI i)), (0, .ref a), (1, .int (nI n))] := hl
      replace hI : r = if 27 + i + n < 47 then f (27 + i + n) else nI 0 := hI
      have hm := hI
      refine tS (st' := [.int r, .int (nI (27 + i)), .ref a]) rfl ?_
      refine iastN (k := (27 + i)) hx hb hE.1 hP hD hS 0 0 rfl rfl (by omega) (by decide) dX6_draws_33 (fun H locs hP hD hS => ?_)
      have hP : va_P G.1 vwCl [(a, .inl (G.2.1, 97, .inl (upd (drW f n i) (27 + i) r)))] H := hP
      have hD : va_D A [(a, .inl (G.2.1, 97, .inl (upd (drW f n i) (27 + i) r)))] := hD
      refine lv_iinc (v := nI (i + 1)) (lv' := [(2, .int (nI (i + 1))), (0, .ref a), (1, .int (nI n))]) hx hb dX6_draws_34 hl (k := 0) rfl (nI_inc1 _) (by decide) rfl (fun ls hl => ?_)
      refine lv_goto (tgt := 2) hx hb dX6_draws_37 (by decide) ?_
      exact ih2 (i + 1) _ _ _ (by omega) (by (try dsimp only); rw [drW_s hm] at hP hD; exact ⟨hP, hD, hS⟩) (lv_sub hl [0, 1, 2] rfl) (by (try dsimp only); omega)
    · skip
      refine icmp_geN (tgt := 32) hx hb (by omega) (by omega) dX6_draws_18 (by decide) (fun c18 => ?_) (fun c18 => ?_)
      · skip
        refine lv_iconst (v := nI 0) hx hb dX6_draws_32 (by decide +kernel) ?_
        exact J33 (nI 0) _ (by rw [if_neg (by omega)]) (lv_sub hl [0, 1, 2] rfl)
      · skip
        refine lv_aload_n hx hb dX6_draws_21 rfl (lv_at hl 1 rfl) ?_
        refine lv_bipush (v := nI 27) hx hb dX6_draws_22 (by decide +kernel) ?_
        refine lv_iload_n hx hb dX6_draws_24 rfl (lv_at hl 0 rfl) ?_
        refine iaddN hx hb dX6_draws_25 ?_
        refine lv_iload_n hx hb dX6_draws_26 rfl (lv_at hl 2 rfl) ?_
        refine iaddN hx hb dX6_draws_27 ?_
        refine ialdN (k := ((27 + i) + n)) hx hb hE.1 hP 0 0 rfl rfl (by omega) (by decide) dX6_draws_28 ?_
        refine tI (y := f (27 + i + n)) (drW_o (by omega)) ?_
        refine lv_goto (tgt := 33) hx hb dX6_draws_29 (by decide) ?_
        exact J33 (f (27 + i + n)) _ (by rw [if_pos (by omega)]) (lv_sub hl [0, 1, 2] rfl)

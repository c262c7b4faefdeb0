set_option maxHeartbeats 4000000 in
set_option maxRecDepth 100000 in
theorem c_X5_isWithin (l : Launch) (G : eG) (v lo hi : Int32) : Met l yX5_isWithin wsX5_isWithin ({ frames := 0, cells := 0, slots := 0, locals := 0 }) (PC [.int v, .int lo, .int hi] G (fun H => va_P G.1 vwCl [] H)) (PQ (some (.int (b2 (lo ≤ v ∧ v ≤ hi))))) 0 0 noA := by
  refine ofB (cc := cX5_isWithin) (maxL := 3) (ret := (some .boolean)) (by decide) rfl (Nat.le_of_ble_eq_true rfl) ?_
  intro p e s m below meth c hx hb hr hlocks hml hown hin hts hE hI ls hl
  replace hown : s.vm.findClass RX5 = some m.cls := hown
  have hl : lv_has ls 3 [(0, .int v), (1, .int lo), (2, .int hi)] := hl
  have hP : va_P G.1 vwCl [] s.heap := hI
  skip
  refine lv_iload_n hx hb dX5_isWithin_0 rfl (lv_at hl 0 rfl) ?_
  refine lv_iload_n hx hb dX5_isWithin_1 rfl (lv_at hl 1 rfl) ?_
  refine cutL (σ := Int32) (n := 3) (pc1 := 15) (fun r => r = b2 (lo ≤ v ∧ v ≤ hi)) (fun r => [(0, .int v), (1, .int lo), (2, .int hi)]) (fun r => [.int r]) ?_ (fun J15 => ?_)
  · rintro r ls hI hl
    replace hI : r = b2 (lo ≤ v ∧ v ≤ hi) := hI
    subst hI
    have hl : lv_has ls 3 [(0, .int v), (1, .int lo), (2, .int hi)] := hl
    refine tS (st' := [.int (b2 (lo ≤ v ∧ v ≤ hi))]) rfl ?_
    exact W.zret hx hb hr (b2_z _) (fun t ht hW => ⟨rfl, ht⟩) (fun _ h => nomatch h) dX5_isWithin_15
  · skip
    refine lv_icmp_lt (tgt := 14) hx hb dX5_isWithin_2 (by decide) (fun c2 => ?_) (fun c2 => ?_)
    · skip
      refine lv_iconst (v := nI 0) hx hb dX5_isWithin_14 (by decide +kernel) ?_
      exact J15 (nI 0) _ (by (try simp only [i_lt, Classical.not_not, b2_0, b2_1] at c2); simp [b2, c2]) (lv_sub hl [0, 1, 2] rfl)
    · skip
      refine lv_iload_n hx hb dX5_isWithin_5 rfl (lv_at hl 0 rfl) ?_
      refine lv_iload_n hx hb dX5_isWithin_6 rfl (lv_at hl 2 rfl) ?_
      refine lv_icmp_gt (tgt := 14) hx hb dX5_isWithin_7 (by decide) (fun c7 => ?_) (fun c7 => ?_)
      · skip
        refine lv_iconst (v := nI 0) hx hb dX5_isWithin_14 (by decide +kernel) ?_
        exact J15 (nI 0) _ (by (try simp only [i_lt, Classical.not_not, b2_0, b2_1] at c2); (try simp only [i_lt, Classical.not_not, b2_0, b2_1] at c7); simp [b2, c2, c7]) (lv_sub hl [0, 1, 2] rfl)
      · skip
        refine lv_iconst (v := nI 1) hx hb dX5_isWithin_10 (by decide +kernel) ?_
        refine lv_goto (tgt := 15) hx hb dX5_isWithin_11 (by decide) ?_
        exact J15 (nI 1) _ (by (try simp only [i_lt, Classical.not_not, b2_0, b2_1] at c2); (try simp only [i_lt, Classical.not_not, b2_0, b2_1] at c7); simp [b2, c2, c7]) (lv_sub hl [0, 1, 2] rfl)
set_option maxHeartbeats 4000000 in
set_option maxRecDepth 100000 in
theorem c_X5_at (l : Launch) (G : eG) (a n : Nat) (f : Nat → Int32) (k : Nat) (hk : k < n) (hn : n < 100000) : Met l yX5_at wsX5_at ({ frames := 0, cells := 0, slots := 0, locals := 0 }) (PC [.ref a, .int (nI k)] G (fun H => va_P G.1 vwCl [(a, .inl (G.2.1, n, .inl f))] H)) (PQ (some (.int (f k)))) 0 0 noA := by
  refine ofB (cc := cX5_at) (maxL := 2) (ret := (some .int)) (by decide) rfl (Nat.le_of_ble_eq_true rfl) ?_
  intro p e s m below meth c hx hb hr hlocks hml hown hin hts hE hI ls hl
  replace hown : s.vm.findClass RX5 = some m.cls := hown
  have hl : lv_has ls 2 [(0, .ref a), (1, .int (nI k))] := hl
  have hP : va_P G.1 vwCl [(a, .inl (G.2.1, n, .inl f))] s.heap := hI
  skip
  refine lv_iload_n hx hb dX5_at_0 rfl (lv_at hl 1 rfl) ?_
  refine lv_if_lt (tgt := 16) hx hb dX5_at_1 (by decide) (fun c1 => ?_) (fun c1 => ?_)
  · skip
    exact absurd c1 (nI_pos (by omega))
  · skip
    refine lv_iload_n hx hb dX5_at_4 rfl (lv_at hl 1 rfl) ?_
    refine lv_aload_n hx hb dX5_at_5 rfl (lv_at hl 0 rfl) ?_
    refine va_alen (v := nI n) hx hb hE.1 hP 0 0 rfl rfl rfl dX5_at_6 ?_
    refine icmp_geN (tgt := 16) hx hb (by omega) (by omega) dX5_at_7 (by decide) (fun c7 => ?_) (fun c7 => ?_)
    · skip
      omega
    · skip
      refine lv_aload_n hx hb dX5_at_10 rfl (lv_at hl 0 rfl) ?_
      refine lv_iload_n hx hb dX5_at_11 rfl (lv_at hl 1 rfl) ?_
      refine ialdN (k := k) hx hb hE.1 hP 0 0 rfl rfl (by omega) (by omega) dX5_at_12 ?_
      refine lv_goto (tgt := 17) hx hb dX5_at_13 (by decide) ?_
      exact W.iret hx hb hr (fun t ht hW => ⟨rfl, ht⟩) (fun _ h => nomatch h) dX5_at_17
set_option maxHeartbeats 4000000 in
set_option maxRecDepth 100000 in
theorem c_X5_put (l : Launch) (G : eG) (a n : Nat) (f : Nat → Int32) (k : Nat) (v : Int32) (hk : k < n) (hn : n < 100000) : Met l yX5_put wsX5_put ({ frames := 0, cells := 0, slots := 0, locals := 0 }) (PC [.ref a, .int (nI k), .int v] G (fun H => va_P G.1 vwCl [(a, .inl (G.2.1, n, .inl f))] H ∧ va_D (fun _ => True) [(a, .inl (G.2.1, n, .inl f))])) (MV (none) (fun H => va_P G.1 vwCl [(a, .inl (G.2.1, n, .inl (upd f k v)))] H ∧ va_D (inW [(a, .inl (G.2.1, n, .inl f))]) [(a, .inl (G.2.1, n, .inl (upd f k v)))]) (inW [(a, .inl (G.2.1, n, .inl f))])) 0 0 (inW [(a, .inl (G.2.1, n, .inl f))]) := by
  refine ofB (cc := cX5_put) (maxL := 3) (ret := none) (by decide) rfl (Nat.le_of_ble_eq_true rfl) ?_
  intro p e s m below meth c hx hb hr hlocks hml hown hin hts hE hI ls hl
  replace hown : s.vm.findClass RX5 = some m.cls := hown
  have hl : lv_has ls 3 [(0, .ref a), (1, .int (nI k)), (2, .int v)] := hl
  obtain ⟨hP, hD0⟩ := hI
  have hD : va_D (inW [(a, .inl (G.2.1, n, .inl f))]) [(a, .inl (G.2.1, n, .inl f))] := D_self hD0
  obtain ⟨A, hAe⟩ : ∃ A, A = inW [(a, .inl (G.2.1, n, .inl f))] := ⟨_, rfl⟩
  rw [← hAe] at hD ⊢
  have hS : va_S A s.heap s.heap [] := va_S.rf
  obtain ⟨H, hHe⟩ : ∃ H, H = s.heap := ⟨_, rfl⟩
  obtain ⟨locs, hle⟩ : ∃ q : List Loc, q = [] := ⟨_, rfl⟩
  rw [← hle] at hS ⊢
  have hP : va_P G.1 vwCl [(a, .inl (G.2.1, n, .inl f))] H := by rw [hHe]; exact hP
  replace hS : va_S A s.heap H locs := by rw [hHe]; exact hS
  refine tH hHe ?_
  skip
  refine lv_iload_n hx hb dX5_put_0 rfl (lv_at hl 1 rfl) ?_
  refine lv_if_lt (tgt := 14) hx hb dX5_put_1 (by decide) (fun c1 => ?_) (fun c1 => ?_)
  · skip
    exact absurd c1 (nI_pos (by omega))
  · skip
    refine lv_iload_n hx hb dX5_put_4 rfl (lv_at hl 1 rfl) ?_
    refine lv_aload_n hx hb dX5_put_5 rfl (lv_at hl 0 rfl) ?_
    refine va_alen (v := nI n) hx hb hE.1 hP 0 0 rfl rfl rfl dX5_put_6 ?_
    refine icmp_geN (tgt := 14) hx hb (by omega) (by omega) dX5_put_7 (by decide) (fun c7 => ?_) (fun c7 => ?_)
    · skip
      omega
    · skip
      refine lv_aload_n hx hb dX5_put_10 rfl (lv_at hl 0 rfl) ?_
      refine lv_iload_n hx hb dX5_put_11 rfl (lv_at hl 1 rfl) ?_
      refine lv_iload_n hx hb dX5_put_12 rfl (lv_at hl 2 rfl) ?_
      refine iastN (k := k) hx hb hE.1 hP hD hS 0 0 rfl rfl (by omega) (by omega) dX5_put_13 (fun H locs hP hD hS => ?_)
      have hP : va_P G.1 vwCl [(a, .inl (G.2.1, n, .inl (upd f k v)))] H := hP
      have hD : va_D A [(a, .inl (G.2.1, n, .inl (upd f k v)))] := hD
      exact W.vret hx hb hr (fun t ht hW => ⟨rfl, by rw [ht]; exact ⟨hP, hD⟩, hS.F ht⟩) hS.2.2 dX5_put_14
set_option maxHeartbeats 4000000 in
set_option maxRecDepth 100000 in
theorem c_X5_copyRow (l : Launch) (G : eG) (a b n : Nat) (f g : Nat → Int32) (hn : n < 100000) : Met l yX5_copyRow wsX5_copyRow ({ frames := 1, cells := 0, slots := 0, locals := 40 }) (PC [.ref a, .ref b] G (fun H => va_P G.1 vwCl [(a, .inl (G.2.1, n, .inl f)), (b, .inl (G.2.1, n, .inl g))] H ∧ va_D (fun _ => True) [(a, .inl (G.2.1, n, .inl f)), (b, .inl (G.2.1, n, .inl g))])) (MV (none) (fun H => va_P G.1 vwCl [(a, .inl (G.2.1, n, .inl f)), (b, .inl (G.2.1, n, .inl f))] H ∧ va_D (inW [(a, .inl (G.2.1, n, .inl f)), (b, .inl (G.2.1, n, .inl g))]) [(a, .inl (G.2.1, n, .inl f)), (b, .inl (G.2.1, n, .inl f))]) (inW [(a, .inl (G.2.1, n, .inl f)), (b, .inl (G.2.1, n, .inl g))])) 0 0 (inW [(a, .inl (G.2.1, n, .inl f)), (b, .inl (G.2.1, n, .inl g))]) := by
  refine ofB (cc := cX5_copyRow) (maxL := 2) (ret := none) (by decide) rfl (Nat.le_of_ble_eq_true rfl) ?_
  intro p e s m below meth c hx hb hr hlocks hml hown hin hts hE hI ls hl
  replace hown : s.vm.findClass RX5 = some m.cls := hown
  have hl : lv_has ls 2 [(0, .ref a), (1, .ref b)] := hl
  obtain ⟨hP, hD0⟩ := hI
  have hD : va_D (inW [(a, .inl (G.2.1, n, .inl f)), (b, .inl (G.2.1, n, .inl g))]) [(a, .inl (G.2.1, n, .inl f)), (b, .inl (G.2.1, n, .inl g))] := D_self hD0
  obtain ⟨A, hAe⟩ : ∃ A, A = inW [(a, .inl (G.2.1, n, .inl f)), (b, .inl (G.2.1, n, .inl g))] := ⟨_, rfl⟩
  rw [← hAe] at hD ⊢
  have hS : va_S A s.heap s.heap [] := va_S.rf
  obtain ⟨H, hHe⟩ : ∃ H, H = s.heap := ⟨_, rfl⟩
  obtain ⟨locs, hle⟩ : ∃ q : List Loc, q = [] := ⟨_, rfl⟩
  rw [← hle] at hS ⊢
  have hP : va_P G.1 vwCl [(a, .inl (G.2.1, n, .inl f)), (b, .inl (G.2.1, n, .inl g))] H := by rw [hHe]; exact hP
  replace hS : va_S A s.heap H locs := by rw [hHe]; exact hS
  refine tH hHe ?_
  have w_0 := hts (.methodLink RX5 313 Lib.Math.min.name) (by decide +kernel)
  have w_1 := hts (.static Lib.Math.min.name) (by decide +kernel)
  have w_2 := hts (.initialized "java/lang/Math") (by decide +kernel)
  have w_3 := hts (.code Lib.Math.min.name Lib.Math.min.code 2 (some .int)) (by decide +kernel)
  have w_4 := hts (.methodLink RX5 319 arraycopyName) (by decide +kernel)
  have w_5 := hts (.native arraycopyName) (by decide +kernel)
  have w_6 := hts (.static arraycopyName) (by decide +kernel)
  have w_7 := hts (.initialized "java/lang/System") (by decide +kernel)
  skip
  refine lv_aload_n hx hb dX5_copyRow_0 rfl (lv_at hl 0 rfl) ?_
  refine lv_iconst (v := nI 0) hx hb dX5_copyRow_1 (by decide +kernel) ?_
  refine lv_aload_n hx hb dX5_copyRow_2 rfl (lv_at hl 1 rfl) ?_
  refine lv_iconst (v := nI 0) hx hb dX5_copyRow_3 (by decide +kernel) ?_
  refine lv_aload_n hx hb dX5_copyRow_4 rfl (lv_at hl 0 rfl) ?_
  refine va_alen (v := nI n) hx hb hE.1 hP 0 0 rfl rfl rfl dX5_copyRow_5 ?_
  refine lv_aload_n hx hb dX5_copyRow_6 rfl (lv_at hl 1 rfl) ?_
  refine va_alen (v := nI n) hx hb hE.1 hP 1 0 rfl rfl rfl dX5_copyRow_7 ?_
  refine va_mmin hx hb (hml.trans hl.1.symm) hown w_0 w_1 w_2 w_3 (by decide) (Nat.le_of_ble_eq_true rfl) (Nat.zero_le _) (Nat.zero_le _) dX5_copyRow_8 ?_
  refine tI (y := nI n) (by split <;> rfl) ?_
  refine va_copyi hx hb (hml.trans hl.1.symm) hown w_4 w_5 w_6 w_7 hE.1 hP hD hS 0 1 0 0 rfl rfl rfl rfl rfl (nI_pos (by decide)) (nI_pos (by decide)) (nI_pos (by omega)) (by rw [nI_clamp (by decide), nI_clamp (by omega)]; omega) (by rw [nI_clamp (by decide), nI_clamp (by omega)]; omega) (fun _ _ => rfl) (by decide) (Nat.le_of_ble_eq_true rfl) dX5_copyRow_11 (fun H locs hP hD hS => ?_)
  rw [nI_clamp (by decide), nI_clamp (by omega)] at hP hD
  have hP : va_P G.1 vwCl [(a, .inl (G.2.1, n, .inl f)), (b, .inl (G.2.1, n, .inl (va_cpy f g 0 0 n)))] H := hP
  have hD : va_D A [(a, .inl (G.2.1, n, .inl f)), (b, .inl (G.2.1, n, .inl (va_cpy f g 0 0 n)))] := hD
  replace hP := P_ext (ws' := [(a, .inl (G.2.1, n, .inl f)), (b, .inl (G.2.1, n, .inl f))]) (g := f) 1 rfl rfl cpyN hP
  replace hD := va_D.set (p := 1) (e := .inl (G.2.1, n, .inl f)) hD rfl
  have hP : va_P G.1 vwCl [(a, .inl (G.2.1, n, .inl f)), (b, .inl (G.2.1, n, .inl f))] H := hP
  have hD : va_D A [(a, .inl (G.2.1, n, .inl f)), (b, .inl (G.2.1, n, .inl f))] := hD
  exact W.vret hx hb hr (fun t ht hW => ⟨rfl, by rw [ht]; exact ⟨hP, hD⟩, hS.F ht⟩) hS.2.2 dX5_copyRow_14
set_option maxHeartbeats 4000000 in
set_option maxRecDepth 100000 in
theorem c_X1_size (l : Launch) (G : eG) (a w b n : Nat) (x : Int32) : Met l yX1_size wsX1_size ({ frames := 0, cells := 0, slots := 0, locals := 0 }) (PC [.ref a] G (fun H => va_P G.1 vwCl [(a, .inr (1, [.ref w, .ref b, .int (nI n), .int x]))] H)) (PQ (some (.int (nI n)))) 0 0 noA := by
  refine ofB (cc := cX1_size) (maxL := 1) (ret := (some .int)) (by decide) rfl (Nat.le_of_ble_eq_true rfl) ?_
  intro p e s m below meth c hx hb hr hlocks hml hown hin hts hE hI ls hl
  replace hown : s.vm.findClass RX1 = some m.cls := hown
  have hl : lv_has ls 1 [(0, .ref a)] := hl
  have hP : va_P G.1 vwCl [(a, .inr (1, [.ref w, .ref b, .int (nI n), .int x]))] s.heap := hI
  have w_0 : ∀ w ∈ u_ws RX1 TX1 4, w ∈ wsX1_size := by decide +kernel
  have w_1 := hts (.fieldLink RX1 18 "CableFerry$Line" "size" "I") (by decide +kernel)
  skip
  refine lv_aload_n hx hb dX1_size_0 rfl (lv_at hl 0 rfl) ?_
  refine va_get (D := G.1) (ci := 1) (v := .int (nI n)) (C := RX1) (T := TX1) (N := 4) hx hb hts w_0 hown hE.1 hP 0 rfl rfl 2 (by decide) w_1 (fun _ h9 => h9) rfl dX1_size_1 ?_
  exact W.iret hx hb hr (fun t ht hW => ⟨rfl, ht⟩) (fun _ h => nomatch h) dX1_size_4
set_option maxHeartbeats 4000000 in
set_option maxRecDepth 100000 in
theorem c_X1_weight (l : Launch) (G : eG) (a w b n : Nat) (x : Int32) : Met l yX1_weight wsX1_weight ({ frames := 0, cells := 0, slots := 0, locals := 0 }) (PC [.ref a] G (fun H => va_P G.1 vwCl [(a, .inr (1, [.ref w, .ref b, .int (nI n), .int x]))] H)) (PQ (some (.int x))) 0 0 noA := by
  refine ofB (cc := cX1_weight) (maxL := 1) (ret := (some .int)) (by decide) rfl (Nat.le_of_ble_eq_true rfl) ?_
  intro p e s m below meth c hx hb hr hlocks hml hown hin hts hE hI ls hl
  replace hown : s.vm.findClass RX1 = some m.cls := hown
  have hl : lv_has ls 1 [(0, .ref a)] := hl
  have hP : va_P G.1 vwCl [(a, .inr (1, [.ref w, .ref b, .int (nI n), .int x]))] s.heap := hI
  have w_0 : ∀ w ∈ u_ws RX1 TX1 4, w ∈ wsX1_weight := by decide +kernel
  have w_1 := hts (.fieldLink RX1 22 "CableFerry$Line" "weight" "I") (by decide +kernel)
  skip
  refine lv_aload_n hx hb dX1_weight_0 rfl (lv_at hl 0 rfl) ?_
  refine va_get (D := G.1) (ci := 1) (v := .int x) (C := RX1) (T := TX1) (N := 4) hx hb hts w_0 hown hE.1 hP 0 rfl rfl 3 (by decide) w_1 (fun _ h9 => h9) rfl dX1_weight_1 ?_
  exact W.iret hx hb hr (fun t ht hW => ⟨rfl, ht⟩) (fun _ h => nomatch h) dX1_weight_4
set_option maxHeartbeats 4000000 in
set_option maxRecDepth 100000 in
theorem c_X1_isFull (l : Launch) (G : eG) (a w b cp : Nat) (n : Nat) (x : Int32) (wf bf : Nat → Int32) (hcp : cp ≤ 10) (hn : n ≤ cp) : Met l yX1_isFull wsX1_isFull ({ frames := 0, cells := 0, slots := 0, locals := 0 }) (PC [.ref a] G (fun H => va_P G.1 vwCl [(a, .inr (1, [.ref w, .ref b, .int (nI n), .int x])), (w, .inl (G.2.1, cp, .inl wf)), (b, .inl (G.2.1, cp, .inl bf))] H)) (PQ (some (.int (b2 (cp ≤ n))))) 0 0 noA := by
  refine ofB (cc := cX1_isFull) (maxL := 1) (ret := (some .boolean)) (by decide) rfl (Nat.le_of_ble_eq_true rfl) ?_
  intro p e s m below meth c hx hb hr hlocks hml hown hin hts hE hI ls hl
  replace hown : s.vm.findClass RX1 = some m.cls := hown
  have hl : lv_has ls 1 [(0, .ref a)] := hl
  have hP : va_P G.1 vwCl [(a, .inr (1, [.ref w, .ref b, .int (nI n), .int x])), (w, .inl (G.2.1, cp, .inl wf)), (b, .inl (G.2.1, cp, .inl bf))] s.heap := hI
  have w_0 : ∀ w ∈ u_ws RX1 TX1 4, w ∈ wsX1_isFull := by decide +kernel
  have w_1 := hts (.fieldLink RX1 18 "CableFerry$Line" "size" "I") (by decide +kernel)
  have w_2 := hts (.fieldLink RX1 9 "CableFerry$Line" "weights" "[I") (by decide +kernel)
  skip
  refine lv_aload_n hx hb dX1_isFull_0 rfl (lv_at hl 0 rfl) ?_
  refine va_get (D := G.1) (ci := 1) (v := .int (nI n)) (C := RX1) (T := TX1) (N := 4) hx hb hts w_0 hown hE.1 hP 0 rfl rfl 2 (by decide) w_1 (fun _ h9 => h9) rfl dX1_isFull_1 ?_
  refine lv_aload_n hx hb dX1_isFull_4 rfl (lv_at hl 0 rfl) ?_
  refine va_get (D := G.1) (ci := 1) (v := .ref w) (C := RX1) (T := TX1) (N := 4) hx hb hts w_0 hown hE.1 hP 0 rfl rfl 0 (by decide) w_2 (fun _ h9 => h9) rfl dX1_isFull_5 ?_
  refine va_alen (v := nI cp) hx hb hE.1 hP 1 0 rfl rfl rfl dX1_isFull_8 ?_
  refine cutL (σ := Int32) (n := 1) (pc1 := 17) (fun r => r = b2 (cp ≤ n)) (fun r => [(0, .ref a)]) (fun r => [.int r]) ?_ (fun J17 => ?_)
  · rintro r ls hI hl
    replace hI : r = b2 (cp ≤ n) := hI
    subst hI
    have hl : lv_has ls 1 [(0, .ref a)] := hl
    refine tS (st' := [.int (b2 (cp ≤ n))]) rfl ?_
    exact W.zret hx hb hr (b2_z _) (fun t ht hW => ⟨rfl, ht⟩) (fun _ h => nomatch h) dX1_isFull_17
  · skip
    refine icmp_ltN (tgt := 16) hx hb (by omega) (by omega) dX1_isFull_9 (by decide) (fun c9 => ?_) (fun c9 => ?_)
    · skip
      refine lv_iconst (v := nI 0) hx hb dX1_isFull_16 (by decide +kernel) ?_
      exact J17 (nI 0) _ (by simp only [b2]; split <;> first | rfl | omega) (lv_sub hl [0] rfl)
    · skip
      refine lv_iconst (v := nI 1) hx hb dX1_isFull_12 (by decide +kernel) ?_
      refine lv_goto (tgt := 17) hx hb dX1_isFull_13 (by decide) ?_
      exact J17 (nI 1) _ (by simp only [b2]; split <;> first | rfl | omega) (lv_sub hl [0] rfl)
set_option maxHeartbeats 4000000 in
set_option maxRecDepth 100000 in
theorem c_X1_weightOf (l : Launch) (G : eG) (a w b cp : Nat) (n : Nat) (x : Int32) (wf bf : Nat → Int32) (hcp : cp ≤ 10) (hn : n ≤ cp) (j : Nat) (hj : j < n) : Met l yX1_weightOf wsX1_weightOf ({ frames := 1, cells := 0, slots := 0, locals := 21 }) (PC [.ref a, .int (nI j)] G (fun H => va_P G.1 vwCl [(a, .inr (1, [.ref w, .ref b, .int (nI n), .int x])), (w, .inl (G.2.1, cp, .inl wf)), (b, .inl (G.2.1, cp, .inl bf))] H)) (PQ (some (.int (wf j)))) 0 0 noA := by
  refine ofB (cc := cX1_weightOf) (maxL := 2) (ret := (some .int)) (by decide) rfl (Nat.le_of_ble_eq_true rfl) ?_
  intro p e s m below meth c hx hb hr hlocks hml hown hin hts hE hI ls hl
  replace hown : s.vm.findClass RX1 = some m.cls := hown
  have hl : lv_has ls 2 [(0, .ref a), (1, .int (nI j))] := hl
  have hP : va_P G.1 vwCl [(a, .inr (1, [.ref w, .ref b, .int (nI n), .int x])), (w, .inl (G.2.1, cp, .inl wf)), (b, .inl (G.2.1, cp, .inl bf))] s.heap := hI
  have w_0 : ∀ w ∈ u_ws RX1 TX1 4, w ∈ wsX1_weightOf := by decide +kernel
  have w_1 := hts (.fieldLink RX1 18 "CableFerry$Line" "size" "I") (by decide +kernel)
  have w_2 := hts (.fieldLink RX1 9 "CableFerry$Line" "weights" "[I") (by decide +kernel)
  have w_3 := hts (.static yX5_at) (by decide +kernel)
  skip
  refine lv_iload_n hx hb dX1_weightOf_0 rfl (lv_at hl 1 rfl) ?_
  refine lv_aload_n hx hb dX1_weightOf_1 rfl (lv_at hl 0 rfl) ?_
  refine va_get (D := G.1) (ci := 1) (v := .int (nI n)) (C := RX1) (T := TX1) (N := 4) hx hb hts w_0 hown hE.1 hP 0 rfl rfl 2 (by decide) w_1 (fun _ h9 => h9) rfl dX1_weightOf_2 ?_
  refine icmp_geN (tgt := 19) hx hb (by omega) (by omega) dX1_weightOf_5 (by decide) (fun c5 => ?_) (fun c5 => ?_)
  · skip
    omega
  · skip
    refine lv_aload_n hx hb dX1_weightOf_8 rfl (lv_at hl 0 rfl) ?_
    refine va_get (D := G.1) (ci := 1) (v := .ref w) (C := RX1) (T := TX1) (N := 4) hx hb hts w_0 hown hE.1 hP 0 rfl rfl 0 (by decide) w_2 (fun _ h9 => h9) rfl dX1_weightOf_9 ?_
    refine lv_iload_n hx hb dX1_weightOf_12 rfl (lv_at hl 1 rfl) ?_
    refine pcall (st1 := [.int (wf j)]) (va_runSN (As := [.ref w, .int (nI j)]) (rest := []) ⟨hx, hb, hml, hown, hts⟩ (c_X5_at l G w cp wf j (by omega) (by omega)) ⟨va_cnB 2 hts gX1_weightOf_X5_at_n29 rfl rfl rfl (hE.2 (RX1, 29, yX5_at) (by decide +kernel)) (hts (.initialized RX5) (by decide +kernel)) (by decide +kernel) ⟨Nat.le_of_ble_eq_true rfl, Nat.le_of_ble_eq_true rfl⟩, w_3, trivial⟩ (PC.preS hE (hP.sub [1] rfl)) rfl rfl hl.1 rfl (lv_room (Nat.le_of_ble_eq_true rfl)) dX1_weightOf_13 ⟨Nat.zero_le _, Nat.zero_le _⟩) rfl ?_
    refine lv_goto (tgt := 20) hx hb dX1_weightOf_16 (by decide) ?_
    exact W.iret hx hb hr (fun t ht hW => ⟨rfl, ht⟩) (fun _ h => nomatch h) dX1_weightOf_20
set_option maxHeartbeats 4000000 in
set_option maxRecDepth 100000 in
theorem c_X1_weightOf_out (l : Launch) (G : eG) (a w b cp : Nat) (n : Nat) (x : Int32) (wf bf : Nat → Int32) (hcp : cp ≤ 10) (hn : n ≤ cp) (j : Nat) (hj : n ≤ j) (hj2 : j < 2147483648) : Met l yX1_weightOf wsX1_weightOf ({ frames := 0, cells := 0, slots := 0, locals := 0 }) (PC [.ref a, .int (nI j)] G (fun H => va_P G.1 vwCl [(a, .inr (1, [.ref w, .ref b, .int (nI n), .int x])), (w, .inl (G.2.1, cp, .inl wf)), (b, .inl (G.2.1, cp, .inl bf))] H)) (PQ (some (.int (-1)))) 0 0 noA := by
  refine ofB (cc := cX1_weightOf) (maxL := 2) (ret := (some .int)) (by decide) rfl (Nat.le_of_ble_eq_true rfl) ?_
  intro p e s m below meth c hx hb hr hlocks hml hown hin hts hE hI ls hl
  replace hown : s.vm.findClass RX1 = some m.cls := hown
  have hl : lv_has ls 2 [(0, .ref a), (1, .int (nI j))] := hl
  have hP : va_P G.1 vwCl [(a, .inr (1, [.ref w, .ref b, .int (nI n), .int x])), (w, .inl (G.2.1, cp, .inl wf)), (b, .inl (G.2.1, cp, .inl bf))] s.heap := hI
  have w_0 : ∀ w ∈ u_ws RX1 TX1 4, w ∈ wsX1_weightOf := by decide +kernel
  have w_1 := hts (.fieldLink RX1 18 "CableFerry$Line" "size" "I") (by decide +kernel)
  skip
  refine lv_iload_n hx hb dX1_weightOf_0 rfl (lv_at hl 1 rfl) ?_
  refine lv_aload_n hx hb dX1_weightOf_1 rfl (lv_at hl 0 rfl) ?_
  refine va_get (D := G.1) (ci := 1) (v := .int (nI n)) (C := RX1) (T := TX1) (N := 4) hx hb hts w_0 hown hE.1 hP 0 rfl rfl 2 (by decide) w_1 (fun _ h9 => h9) rfl dX1_weightOf_2 ?_
  refine icmp_geN (tgt := 19) hx hb (by omega) (by omega) dX1_weightOf_5 (by decide) (fun c5 => ?_) (fun c5 => ?_)
  · skip
    refine lv_iconst (v := -1) hx hb dX1_weightOf_19 (by decide +kernel) ?_
    exact W.iret hx hb hr (fun t ht hW => ⟨rfl, ht⟩) (fun _ h => nomatch h) dX1_weightOf_20
  · skip
    omega
set_option maxHeartbeats 4000000 in
set_option maxRecDepth 100000 in
theorem c_X1_bankOf (l : Launch) (G : eG) (a w b cp : Nat) (n : Nat) (x : Int32) (wf bf : Nat → Int32) (hcp : cp ≤ 10) (hn : n ≤ cp) (j : Nat) (hj : j < n) : Met l yX1_bankOf wsX1_bankOf ({ frames := 1, cells := 0, slots := 0, locals := 21 }) (PC [.ref a, .int (nI j)] G (fun H => va_P G.1 vwCl [(a, .inr (1, [.ref w, .ref b, .int (nI n), .int x])), (w, .inl (G.2.1, cp, .inl wf)), (b, .inl (G.2.1, cp, .inl bf))] H)) (PQ (some (.int (bf j)))) 0 0 noA := by
  refine ofB (cc := cX1_bankOf) (maxL := 2) (ret := (some .int)) (by decide) rfl (Nat.le_of_ble_eq_true rfl) ?_
  intro p e s m below meth c hx hb hr hlocks hml hown hin hts hE hI ls hl
  replace hown : s.vm.findClass RX1 = some m.cls := hown
  have hl : lv_has ls 2 [(0, .ref a), (1, .int (nI j))] := hl
  have hP : va_P G.1 vwCl [(a, .inr (1, [.ref w, .ref b, .int (nI n), .int x])), (w, .inl (G.2.1, cp, .inl wf)), (b, .inl (G.2.1, cp, .inl bf))] s.heap := hI
  have w_0 : ∀ w ∈ u_ws RX1 TX1 4, w ∈ wsX1_bankOf := by decide +kernel
  have w_1 := hts (.fieldLink RX1 18 "CableFerry$Line" "size" "I") (by decide +kernel)
  have w_2 := hts (.fieldLink RX1 15 "CableFerry$Line" "banks" "[I") (by decide +kernel)
  have w_3 := hts (.static yX5_at) (by decide +kernel)
  skip
  refine lv_iload_n hx hb dX1_bankOf_0 rfl (lv_at hl 1 rfl) ?_
  refine lv_aload_n hx hb dX1_bankOf_1 rfl (lv_at hl 0 rfl) ?_
  refine va_get (D := G.1) (ci := 1) (v := .int (nI n)) (C := RX1) (T := TX1) (N := 4) hx hb hts w_0 hown hE.1 hP 0 rfl rfl 2 (by decide) w_1 (fun _ h9 => h9) rfl dX1_bankOf_2 ?_
  refine icmp_geN (tgt := 19) hx hb (by omega) (by omega) dX1_bankOf_5 (by decide) (fun c5 => ?_) (fun c5 => ?_)
  · skip
    omega
  · skip
    refine lv_aload_n hx hb dX1_bankOf_8 rfl (lv_at hl 0 rfl) ?_
    refine va_get (D := G.1) (ci := 1) (v := .ref b) (C := RX1) (T := TX1) (N := 4) hx hb hts w_0 hown hE.1 hP 0 rfl rfl 1 (by decide) w_2 (fun _ h9 => h9) rfl dX1_bankOf_9 ?_
    refine lv_iload_n hx hb dX1_bankOf_12 rfl (lv_at hl 1 rfl) ?_
    refine pcall (st1 := [.int (bf j)]) (va_runSN (As := [.ref b, .int (nI j)]) (rest := []) ⟨hx, hb, hml, hown, hts⟩ (c_X5_at l G b cp bf j (by omega) (by omega)) ⟨va_cnB 2 hts gX1_bankOf_X5_at_n29 rfl rfl rfl (hE.2 (RX1, 29, yX5_at) (by decide +kernel)) (hts (.initialized RX5) (by decide +kernel)) (by decide +kernel) ⟨Nat.le_of_ble_eq_true rfl, Nat.le_of_ble_eq_true rfl⟩, w_3, trivial⟩ (PC.preS hE (hP.sub [2] rfl)) rfl rfl hl.1 rfl (lv_room (Nat.le_of_ble_eq_true rfl)) dX1_bankOf_13 ⟨Nat.zero_le _, Nat.zero_le _⟩) rfl ?_
    refine lv_goto (tgt := 20) hx hb dX1_bankOf_16 (by decide) ?_
    exact W.iret hx hb hr (fun t ht hW => ⟨rfl, ht⟩) (fun _ h => nomatch h) dX1_bankOf_20
set_option maxHeartbeats 4000000 in
set_option maxRecDepth 100000 in
theorem c_X1_bankOf_out (l : Launch) (G : eG) (a w b cp : Nat) (n : Nat) (x : Int32) (wf bf : Nat → Int32) (hcp : cp ≤ 10) (hn : n ≤ cp) (j : Nat) (hj : n ≤ j) (hj2 : j < 2147483648) : Met l yX1_bankOf wsX1_bankOf ({ frames := 0, cells := 0, slots := 0, locals := 0 }) (PC [.ref a, .int (nI j)] G (fun H => va_P G.1 vwCl [(a, .inr (1, [.ref w, .ref b, .int (nI n), .int x])), (w, .inl (G.2.1, cp, .inl wf)), (b, .inl (G.2.1, cp, .inl bf))] H)) (PQ (some (.int (-1)))) 0 0 noA := by
  refine ofB (cc := cX1_bankOf) (maxL := 2) (ret := (some .int)) (by decide) rfl (Nat.le_of_ble_eq_true rfl) ?_
  intro p e s m below meth c hx hb hr hlocks hml hown hin hts hE hI ls hl
  replace hown : s.vm.findClass RX1 = some m.cls := hown
  have hl : lv_has ls 2 [(0, .ref a), (1, .int (nI j))] := hl
  have hP : va_P G.1 vwCl [(a, .inr (1, [.ref w, .ref b, .int (nI n), .int x])), (w, .inl (G.2.1, cp, .inl wf)), (b, .inl (G.2.1, cp, .inl bf))] s.heap := hI
  have w_0 : ∀ w ∈ u_ws RX1 TX1 4, w ∈ wsX1_bankOf := by decide +kernel
  have w_1 := hts (.fieldLink RX1 18 "CableFerry$Line" "size" "I") (by decide +kernel)
  skip
  refine lv_iload_n hx hb dX1_bankOf_0 rfl (lv_at hl 1 rfl) ?_
  refine lv_aload_n hx hb dX1_bankOf_1 rfl (lv_at hl 0 rfl) ?_
  refine va_get (D := G.1) (ci := 1) (v := .int (nI n)) (C := RX1) (T := TX1) (N := 4) hx hb hts w_0 hown hE.1 hP 0 rfl rfl 2 (by decide) w_1 (fun _ h9 => h9) rfl dX1_bankOf_2 ?_
  refine icmp_geN (tgt := 19) hx hb (by omega) (by omega) dX1_bankOf_5 (by decide) (fun c5 => ?_) (fun c5 => ?_)
  · skip
    refine lv_iconst (v := -1) hx hb dX1_bankOf_19 (by decide +kernel) ?_
    exact W.iret hx hb hr (fun t ht hW => ⟨rfl, ht⟩) (fun _ h => nomatch h) dX1_bankOf_20
  · skip
    omega
set_option maxHeartbeats 4000000 in
set_option maxRecDepth 100000 in
theorem c_X1_countOfBank (l : Launch) (G : eG) (a w b cp : Nat) (n : Nat) (x : Int32) (wf bf : Nat → Int32) (hcp : cp ≤ 10) (hn : n ≤ cp) (v : Int32) : Met l yX1_countOfBank wsX1_countOfBank ({ frames := 1, cells := 0, slots := 0, locals := 21 }) (PC [.ref a, .int v] G (fun H => va_P G.1 vwCl [(a, .inr (1, [.ref w, .ref b, .int (nI n), .int x])), (w, .inl (G.2.1, cp, .inl wf)), (b, .inl (G.2.1, cp, .inl bf))] H)) (PQ (some (.int (nI (cntN bf v n))))) 0 0 noA := by
  refine ofB (cc := cX1_countOfBank) (maxL := 4) (ret := (some .int)) (by decide) rfl (Nat.le_of_ble_eq_true rfl) ?_
  intro p e s m below meth c hx hb hr hlocks hml hown hin hts hE hI ls hl
  replace hown : s.vm.findClass RX1 = some m.cls := hown
  have hl : lv_has ls 4 [(0, .ref a), (1, .int v)] := hl
  have hP : va_P G.1 vwCl [(a, .inr (1, [.ref w, .ref b, .int (nI n), .int x])), (w, .inl (G.2.1, cp, .inl wf)), (b, .inl (G.2.1, cp, .inl bf))] s.heap := hI
  have w_0 : ∀ w ∈ u_ws RX1 TX1 4, w ∈ wsX1_countOfBank := by decide +kernel
  have w_1 := hts (.fieldLink RX1 18 "CableFerry$Line" "size" "I") (by decide +kernel)
  have w_2 := hts (.fieldLink RX1 15 "CableFerry$Line" "banks" "[I") (by decide +kernel)
  have w_3 := hts (.static yX5_at) (by decide +kernel)
  skip
  refine lv_iconst (v := nI 0) hx hb dX1_countOfBank_0 (by decide +kernel) ?_
  refine lv_istore_n (lv' := [(2, .int (nI 0)), (0, .ref a), (1, .int v)]) hx hb dX1_countOfBank_1 rfl hl (by decide) rfl (fun ls hl => ?_)
  refine lv_iconst (v := nI 0) hx hb dX1_countOfBank_2 (by decide +kernel) ?_
  refine lv_istore_n (lv' := [(3, .int (nI 0)), (2, .int (nI 0)), (0, .ref a), (1, .int v)]) hx hb dX1_countOfBank_3 rfl hl (by decide) rfl (fun ls hl => ?_)
  refine loopL (σ := Nat × Nat) (n := 4) (pc1 := 4) (fun (z_ : Nat × Nat) => match z_ with | (i, ct) => n - i) (fun (z_ : Nat × Nat) => match z_ with | (i, ct) => i ≤ n ∧ ct = cntN bf v i) (fun (z_ : Nat × Nat) => match z_ with | (i, ct) => [(3, .int (nI i)), (2, .int (nI ct)), (0, .ref a), (1, .int v)]) (fun (z_ : Nat × Nat) => match z_ with | (i, ct) => []) ?_ (0, 0) _ ⟨Nat.zero_le _, rfl⟩ (lv_sub hl [0, 1, 2, 3] rfl)
  rintro ⟨i, ct⟩ ls hI hl ih4
  have hl : lv_has ls 4 [(3, .int (nI i)), (2, .int (nI ct)), (0, .ref a), (1, .int v)] := hl
  replace hI : i ≤ n ∧ ct = cntN bf v i := hI
  obtain ⟨hi, hc⟩ := hI
  have hcl := cntN_le (B := bf) (v := v) (k := i)
  refine tS (st' := []) rfl ?_
  refine lv_iload_n hx hb dX1_countOfBank_4 rfl (lv_at hl 0 rfl) ?_
  refine lv_aload_n hx hb dX1_countOfBank_5 rfl (lv_at hl 2 rfl) ?_
  refine va_get (D := G.1) (ci := 1) (v := .int (nI n)) (C := RX1) (T := TX1) (N := 4) hx hb hts w_0 hown hE.1 hP 0 rfl rfl 2 (by decide) w_1 (fun _ h9 => h9) rfl dX1_countOfBank_6 ?_
  refine icmp_geN (tgt := 33) hx hb (by omega) (by omega) dX1_countOfBank_9 (by decide) (fun c9 => ?_) (fun c9 => ?_)
  · skip
    refine lv_iload_n hx hb dX1_countOfBank_33 rfl (lv_at hl 1 rfl) ?_
    refine tS (st' := [.int (nI (cntN bf v n))]) (congrArg (fun z => [Value.int z]) (by rw [hc, show i = n by omega])) ?_
    exact W.iret hx hb hr (fun t ht hW => ⟨rfl, ht⟩) (fun _ h => nomatch h) dX1_countOfBank_34
  · skip
    refine lv_aload_n hx hb dX1_countOfBank_12 rfl (lv_at hl 2 rfl) ?_
    refine va_get (D := G.1) (ci := 1) (v := .ref b) (C := RX1) (T := TX1) (N := 4) hx hb hts w_0 hown hE.1 hP 0 rfl rfl 1 (by decide) w_2 (fun _ h9 => h9) rfl dX1_countOfBank_13 ?_
    refine lv_iload_n hx hb dX1_countOfBank_16 rfl (lv_at hl 0 rfl) ?_
    refine pcall (st1 := [.int (bf i)]) (va_runSN (As := [.ref b, .int (nI i)]) (rest := []) ⟨hx, hb, hml, hown, hts⟩ (c_X5_at l G b cp bf i (by omega) (by omega)) ⟨va_cnB 2 hts gX1_countOfBank_X5_at_n29 rfl rfl rfl (hE.2 (RX1, 29, yX5_at) (by decide +kernel)) (hts (.initialized RX5) (by decide +kernel)) (by decide +kernel) ⟨Nat.le_of_ble_eq_true rfl, Nat.le_of_ble_eq_true rfl⟩, w_3, trivial⟩ (PC.preS hE (hP.sub [2] rfl)) rfl rfl hl.1 rfl (lv_room (Nat.le_of_ble_eq_true rfl)) dX1_countOfBank_17 ⟨Nat.zero_le _, Nat.zero_le _⟩) rfl ?_
    refine lv_iload_n hx hb dX1_countOfBank_20 rfl (lv_at hl 3 rfl) ?_
    refine lv_icmp_ne (tgt := 27) hx hb dX1_countOfBank_21 (by decide) (fun c21 => ?_) (fun c21 => ?_)
    · skip
      refine lv_iinc (v := nI (i + 1)) (lv' := [(3, .int (nI (i + 1))), (2, .int (nI ct)), (0, .ref a), (1, .int v)]) hx hb dX1_countOfBank_27 hl (k := 0) rfl (nI_inc1 _) (by decide) rfl (fun ls hl => ?_)
      refine lv_goto (tgt := 4) hx hb dX1_countOfBank_30 (by decide) ?_
      exact ih4 ((i + 1), ct) _ ⟨by omega, by show _ = cntN bf v i + _; rw [if_neg c21]; omega⟩ (lv_sub hl [0, 1, 2, 3] rfl) (by (try dsimp only); omega)
    · skip
      refine lv_iinc (v := nI (ct + 1)) (lv' := [(2, .int (nI (ct + 1))), (3, .int (nI i)), (0, .ref a), (1, .int v)]) hx hb dX1_countOfBank_24 hl (k := 1) rfl (nI_inc1 _) (by decide) rfl (fun ls hl => ?_)
      refine lv_iinc (v := nI (i + 1)) (lv' := [(3, .int (nI (i + 1))), (2, .int (nI (ct + 1))), (0, .ref a), (1, .int v)]) hx hb dX1_countOfBank_27 hl (k := 1) rfl (nI_inc1 _) (by decide) rfl (fun ls hl => ?_)
      refine lv_goto (tgt := 4) hx hb dX1_countOfBank_30 (by decide) ?_
      exact ih4 ((i + 1), (ct + 1)) _ ⟨by omega, by show _ = cntN bf v i + _; rw [if_pos c21]; omega⟩ (lv_sub hl [0, 1, 2, 3] rfl) (by (try dsimp only); omega)
set_option maxHeartbeats 4000000 in
set_option maxRecDepth 100000 in
theorem c_X1_add (l : Launch) (G : eG) (a w b cp : Nat) (n : Nat) (x : Int32) (wf bf : Nat → Int32) (hcp : cp ≤ 10) (hn : n ≤ cp) (v u : Int32) (hn2 : n < cp) : Met l yX1_add wsX1_add ({ frames := 1, cells := 0, slots := 0, locals := 22 }) (PC [.ref a, .int v, .int u] G (fun H => va_P G.1 vwCl [(a, .inr (1, [.ref w, .ref b, .int (nI n), .int x])), (w, .inl (G.2.1, cp, .inl wf)), (b, .inl (G.2.1, cp, .inl bf))] H ∧ va_D (fun _ => True) [(a, .inr (1, [.ref w, .ref b, .int (nI n), .int x])), (w, .inl (G.2.1, cp, .inl wf)), (b, .inl (G.2.1, cp, .inl bf))])) (MV (none) (fun H => va_P G.1 vwCl [(a, .inr (1, [.ref w, .ref b, .int (nI (n + 1)), .int (x + v)])), (w, .inl (G.2.1, cp, .inl (upd wf n v))), (b, .inl (G.2.1, cp, .inl (upd bf n u)))] H ∧ va_D (inW [(a, .inr (1, [.ref w, .ref b, .int (nI n), .int x])), (w, .inl (G.2.1, cp, .inl wf)), (b, .inl (G.2.1, cp, .inl bf))]) [(a, .inr (1, [.ref w, .ref b, .int (nI (n + 1)), .int (x + v)])), (w, .inl (G.2.1, cp, .inl (upd wf n v))), (b, .inl (G.2.1, cp, .inl (upd bf n u)))]) (inW [(a, .inr (1, [.ref w, .ref b, .int (nI n), .int x])), (w, .inl (G.2.1, cp, .inl wf)), (b, .inl (G.2.1, cp, .inl bf))])) 0 0 (inW [(a, .inr (1, [.ref w, .ref b, .int (nI n), .int x])), (w, .inl (G.2.1, cp, .inl wf)), (b, .inl (G.2.1, cp, .inl bf))]) := by
  refine ofB (cc := cX1_add) (maxL := 3) (ret := none) (by decide) rfl (Nat.le_of_ble_eq_true rfl) ?_
  intro p e s m below meth c hx hb hr hlocks hml hown hin hts hE hI ls hl
  replace hown : s.vm.findClass RX1 = some m.cls := hown
  have hl : lv_has ls 3 [(0, .ref a), (1, .int v), (2, .int u)] := hl
  obtain ⟨hP, hD0⟩ := hI
  have hD : va_D (inW [(a, .inr (1, [.ref w, .ref b, .int (nI n), .int x])), (w, .inl (G.2.1, cp, .inl wf)), (b, .inl (G.2.1, cp, .inl bf))]) [(a, .inr (1, [.ref w, .ref b, .int (nI n), .int x])), (w, .inl (G.2.1, cp, .inl wf)), (b, .inl (G.2.1, cp, .inl bf))] := D_self hD0
  obtain ⟨A, hAe⟩ : ∃ A, A = inW [(a, .inr (1, [.ref w, .ref b, .int (nI n), .int x])), (w, .inl (G.2.1, cp, .inl wf)), (b, .inl (G.2.1, cp, .inl bf))] := ⟨_, rfl⟩
  rw [← hAe] at hD ⊢
  have hS : va_S A s.heap s.heap [] := va_S.rf
  obtain ⟨H, hHe⟩ : ∃ H, H = s.heap := ⟨_, rfl⟩
  obtain ⟨locs, hle⟩ : ∃ q : List Loc, q = [] := ⟨_, rfl⟩
  rw [← hle] at hS ⊢
  have hP : va_P G.1 vwCl [(a, .inr (1, [.ref w, .ref b, .int (nI n), .int x])), (w, .inl (G.2.1, cp, .inl wf)), (b, .inl (G.2.1, cp, .inl bf))] H := by rw [hHe]; exact hP
  replace hS : va_S A s.heap H locs := by rw [hHe]; exact hS
  refine tH hHe ?_
  have w_0 : ∀ w ∈ u_ws RX1 TX1 4, w ∈ wsX1_add := by decide +kernel
  have w_1 := hts (.fieldLink RX1 9 "CableFerry$Line" "weights" "[I") (by decide +kernel)
  have w_2 := hts (.fieldLink RX1 18 "CableFerry$Line" "size" "I") (by decide +kernel)
  have w_3 := hts (.static yX5_put) (by decide +kernel)
  have w_4 := hts (.fieldLink RX1 15 "CableFerry$Line" "banks" "[I") (by decide +kernel)
  have w_5 := hts (.fieldLink RX1 22 "CableFerry$Line" "weight" "I") (by decide +kernel)
  skip
  refine lv_aload_n hx hb dX1_add_0 rfl (lv_at hl 0 rfl) ?_
  refine pcall (st1 := [.int (b2 (cp ≤ n))]) (va_runV (As := []) (rest := []) ⟨hx, hb, hml, hown, hts⟩ (c_X1_isFull l G a w b cp n x wf bf (by omega) (by omega)) (cwV 0 hts gX1_add_X1_isFull rfl rfl rfl (by decide +kernel) ⟨Nat.le_of_ble_eq_true rfl, Nat.le_of_ble_eq_true rfl⟩) (PC.preV hE (va_recv hE.1 hP (ci := 1) (q0 := 0) rfl rfl) (hP.sub [0, 1, 2] rfl)) rfl rfl hl.1 rfl (lv_room (Nat.le_of_ble_eq_true rfl)) dX1_add_1 ⟨Nat.zero_le _, Nat.zero_le _⟩) rfl ?_
  refine tI (y := nI 0) (b2_f (by omega)) ?_
  refine lv_if_eq (tgt := 8) hx hb dX1_add_4 (by decide) (fun c4 => ?_) (fun c4 => ?_)
  · skip
    refine lv_aload_n hx hb dX1_add_8 rfl (lv_at hl 0 rfl) ?_
    refine va_get (D := G.1) (ci := 1) (v := .ref w) (C := RX1) (T := TX1) (N := 4) hx hb hts w_0 hown hE.1 hP 0 rfl rfl 0 (by decide) w_1 (fun _ h9 => h9) rfl dX1_add_9 ?_
    refine lv_aload_n hx hb dX1_add_12 rfl (lv_at hl 0 rfl) ?_
    refine va_get (D := G.1) (ci := 1) (v := .int (nI n)) (C := RX1) (T := TX1) (N := 4) hx hb hts w_0 hown hE.1 hP 0 rfl rfl 2 (by decide) w_2 (fun _ h9 => h9) rfl dX1_add_13 ?_
    refine lv_iload_n hx hb dX1_add_16 rfl (lv_at hl 1 rfl) ?_
    have hPc := hP.sub (ws' := [(w, .inl (G.2.1, cp, .inl wf))]) [1] rfl
    have hDc := hD.sub (ws' := [(w, .inl (G.2.1, cp, .inl wf))]) [1] (by decide) rfl
    refine mcall (st1 := []) (va_runSN (As := [.ref w, .int (nI n), .int v]) (rest := []) ⟨hx, hb, hml, hown, hts⟩ (c_X5_put l G w cp wf n v (by omega) (by omega)) ⟨va_cnB 3 hts gX1_add_X5_put_n37 rfl rfl rfl (hE.2 (RX1, 37, yX5_put) (by decide +kernel)) (hts (.initialized RX5) (by decide +kernel)) (by decide +kernel) ⟨Nat.le_of_ble_eq_true rfl, Nat.le_of_ble_eq_true rfl⟩, w_3, trivial⟩ (PC.preS hE ⟨hPc, hDc.weaken (fun _ _ _ _ => trivial)⟩) rfl rfl hl.1 rfl (lv_room (Nat.le_of_ble_eq_true rfl)) dX1_add_17 ⟨Nat.zero_le _, Nat.zero_le _⟩) hS (fun q _ h => inW_D hDc q h) (fun q h => inW_D hDc q h) rfl (fun H1 locs1 hB hz1 hk1 hS => ?_)
    obtain ⟨hP1, hD1⟩ := hB
    obtain ⟨hP, hD⟩ := jnW (wr := [(a, .inr (1, [.ref w, .ref b, .int (nI n), .int x])), (b, .inl (G.2.1, cp, .inl bf))]) (w1 := [(w, .inl (G.2.1, cp, .inl (upd wf n v)))]) hP hD [1] [0, 2] rfl rfl (by decide) (by decide) hk1 hP1 hD1
    generalize H1 = H at hP hS ⊢
    replace hP := hP.sub (ws' := [(a, .inr (1, [.ref w, .ref b, .int (nI n), .int x])), (w, .inl (G.2.1, cp, .inl (upd wf n v))), (b, .inl (G.2.1, cp, .inl bf))]) [0, 2, 1] rfl
    replace hD := hD.sub (ws' := [(a, .inr (1, [.ref w, .ref b, .int (nI n), .int x])), (w, .inl (G.2.1, cp, .inl (upd wf n v))), (b, .inl (G.2.1, cp, .inl bf))]) [0, 2, 1] (by decide) rfl
    have hP : va_P G.1 vwCl [(a, .inr (1, [.ref w, .ref b, .int (nI n), .int x])), (w, .inl (G.2.1, cp, .inl (upd wf n v))), (b, .inl (G.2.1, cp, .inl bf))] H := hP
    have hD : va_D A [(a, .inr (1, [.ref w, .ref b, .int (nI n), .int x])), (w, .inl (G.2.1, cp, .inl (upd wf n v))), (b, .inl (G.2.1, cp, .inl bf))] := hD
    refine lv_aload_n hx hb dX1_add_20 rfl (lv_at hl 0 rfl) ?_
    refine va_get (D := G.1) (ci := 1) (v := .ref b) (C := RX1) (T := TX1) (N := 4) hx hb hts w_0 hown hE.1 hP 0 rfl rfl 1 (by decide) w_4 (fun _ h9 => h9) rfl dX1_add_21 ?_
    refine lv_aload_n hx hb dX1_add_24 rfl (lv_at hl 0 rfl) ?_
    refine va_get (D := G.1) (ci := 1) (v := .int (nI n)) (C := RX1) (T := TX1) (N := 4) hx hb hts w_0 hown hE.1 hP 0 rfl rfl 2 (by decide) w_2 (fun _ h9 => h9) rfl dX1_add_25 ?_
    refine lv_iload_n hx hb dX1_add_28 rfl (lv_at hl 2 rfl) ?_
    have hPc := hP.sub (ws' := [(b, .inl (G.2.1, cp, .inl bf))]) [2] rfl
    have hDc := hD.sub (ws' := [(b, .inl (G.2.1, cp, .inl bf))]) [2] (by decide) rfl
    refine mcall (st1 := []) (va_runSN (As := [.ref b, .int (nI n), .int u]) (rest := []) ⟨hx, hb, hml, hown, hts⟩ (c_X5_put l G b cp bf n u (by omega) (by omega)) ⟨va_cnB 3 hts gX1_add_X5_put_n37 rfl rfl rfl (hE.2 (RX1, 37, yX5_put) (by decide +kernel)) (hts (.initialized RX5) (by decide +kernel)) (by decide +kernel) ⟨Nat.le_of_ble_eq_true rfl, Nat.le_of_ble_eq_true rfl⟩, w_3, trivial⟩ (PC.preS hE ⟨hPc, hDc.weaken (fun _ _ _ _ => trivial)⟩) rfl rfl hl.1 rfl (lv_room (Nat.le_of_ble_eq_true rfl)) dX1_add_29 ⟨Nat.zero_le _, Nat.zero_le _⟩) hS (fun q _ h => inW_D hDc q h) (fun q h => inW_D hDc q h) rfl (fun H1 locs1 hB hz1 hk1 hS => ?_)
    obtain ⟨hP1, hD1⟩ := hB
    obtain ⟨hP, hD⟩ := jnW (wr := [(a, .inr (1, [.ref w, .ref b, .int (nI n), .int x])), (w, .inl (G.2.1, cp, .inl (upd wf n v)))]) (w1 := [(b, .inl (G.2.1, cp, .inl (upd bf n u)))]) hP hD [2] [0, 1] rfl rfl (by decide) (by decide) hk1 hP1 hD1
    generalize H1 = H at hP hS ⊢
    have hP : va_P G.1 vwCl [(a, .inr (1, [.ref w, .ref b, .int (nI n), .int x])), (w, .inl (G.2.1, cp, .inl (upd wf n v))), (b, .inl (G.2.1, cp, .inl (upd bf n u)))] H := hP
    have hD : va_D A [(a, .inr (1, [.ref w, .ref b, .int (nI n), .int x])), (w, .inl (G.2.1, cp, .inl (upd wf n v))), (b, .inl (G.2.1, cp, .inl (upd bf n u)))] := hD
    refine lv_aload_n hx hb dX1_add_32 rfl (lv_at hl 0 rfl) ?_
    refine lv_dup hx hb dX1_add_33 rfl ?_
    refine va_get (D := G.1) (ci := 1) (v := .int (nI n)) (C := RX1) (T := TX1) (N := 4) hx hb hts w_0 hown hE.1 hP 0 rfl rfl 2 (by decide) w_2 (fun _ h9 => h9) rfl dX1_add_34 ?_
    refine lv_iconst (v := nI 1) hx hb dX1_add_37 (by decide +kernel) ?_
    refine iaddN hx hb dX1_add_38 ?_
    refine va_put (D := G.1) (ci := 1) (v := .int (nI (n + 1))) (ty := .int) (C := RX1) (T := TX1) (N := 4) hx hb hts w_0 tyX1 tyX1_ok nmX1 hown hE.1 hP hD hS 0 rfl rfl 2 (by decide) w_2 (fun _ h9 => h9) rfl (by decide +kernel) rfl rfl (Nat.le_of_ble_eq_true rfl) dX1_add_39 (fun H locs hP hD hS => ?_)
    have hP : va_P G.1 vwCl [(a, .inr (1, [.ref w, .ref b, .int (nI (n + 1)), .int x])), (w, .inl (G.2.1, cp, .inl (upd wf n v))), (b, .inl (G.2.1, cp, .inl (upd bf n u)))] H := hP
    have hD : va_D A [(a, .inr (1, [.ref w, .ref b, .int (nI (n + 1)), .int x])), (w, .inl (G.2.1, cp, .inl (upd wf n v))), (b, .inl (G.2.1, cp, .inl (upd bf n u)))] := hD
    refine lv_aload_n hx hb dX1_add_42 rfl (lv_at hl 0 rfl) ?_
    refine lv_dup hx hb dX1_add_43 rfl ?_
    refine va_get (D := G.1) (ci := 1) (v := .int x) (C := RX1) (T := TX1) (N := 4) hx hb hts w_0 hown hE.1 hP 0 rfl rfl 3 (by decide) w_5 (fun _ h9 => h9) rfl dX1_add_44 ?_
    refine lv_iload_n hx hb dX1_add_47 rfl (lv_at hl 1 rfl) ?_
    refine lv_iadd hx hb dX1_add_48 ?_
    refine va_put (D := G.1) (ci := 1) (v := .int (x + v)) (ty := .int) (C := RX1) (T := TX1) (N := 4) hx hb hts w_0 tyX1 tyX1_ok nmX1 hown hE.1 hP hD hS 0 rfl rfl 3 (by decide) w_5 (fun _ h9 => h9) rfl (by decide +kernel) rfl rfl (Nat.le_of_ble_eq_true rfl) dX1_add_49 (fun H locs hP hD hS => ?_)
    have hP : va_P G.1 vwCl [(a, .inr (1, [.ref w, .ref b, .int (nI (n + 1)), .int (x + v)])), (w, .inl (G.2.1, cp, .inl (upd wf n v))), (b, .inl (G.2.1, cp, .inl (upd bf n u)))] H := hP
    have hD : va_D A [(a, .inr (1, [.ref w, .ref b, .int (nI (n + 1)), .int (x + v)])), (w, .inl (G.2.1, cp, .inl (upd wf n v))), (b, .inl (G.2.1, cp, .inl (upd bf n u)))] := hD
    exact W.vret hx hb hr (fun t ht hW => ⟨rfl, by rw [ht]; exact ⟨hP, hD⟩, hS.F ht⟩) hS.2.2 dX1_add_52
  · skip
    exact absurd c4 (by decide)
set_option maxHeartbeats 4000000 in
set_option maxRecDepth 100000 in
theorem c_X1_removeFirst (l : Launch) (G : eG) (a w b cp : Nat) (n : Nat) (x : Int32) (wf bf : Nat → Int32) (hcp : cp ≤ 10) (hn : n ≤ cp) (hn1 : 1 ≤ n) : Met l yX1_removeFirst wsX1_removeFirst ({ frames := 1, cells := 0, slots := 0, locals := 22 }) (PC [.ref a] G (fun H => va_P G.1 vwCl [(a, .inr (1, [.ref w, .ref b, .int (nI n), .int x])), (w, .inl (G.2.1, cp, .inl wf)), (b, .inl (G.2.1, cp, .inl bf))] H ∧ va_D (fun _ => True) [(a, .inr (1, [.ref w, .ref b, .int (nI n), .int x])), (w, .inl (G.2.1, cp, .inl wf)), (b, .inl (G.2.1, cp, .inl bf))])) (MV (none) (fun H => va_P G.1 vwCl [(a, .inr (1, [.ref w, .ref b, .int (nI (n - 1)), .int (x - wf 0)])), (w, .inl (G.2.1, cp, .inl (shf wf n))), (b, .inl (G.2.1, cp, .inl (shf bf n)))] H ∧ va_D (inW [(a, .inr (1, [.ref w, .ref b, .int (nI n), .int x])), (w, .inl (G.2.1, cp, .inl wf)), (b, .inl (G.2.1, cp, .inl bf))]) [(a, .inr (1, [.ref w, .ref b, .int (nI (n - 1)), .int (x - wf 0)])), (w, .inl (G.2.1, cp, .inl (shf wf n))), (b, .inl (G.2.1, cp, .inl (shf bf n)))]) (inW [(a, .inr (1, [.ref w, .ref b, .int (nI n), .int x])), (w, .inl (G.2.1, cp, .inl wf)), (b, .inl (G.2.1, cp, .inl bf))])) 0 0 (inW [(a, .inr (1, [.ref w, .ref b, .int (nI n), .int x])), (w, .inl (G.2.1, cp, .inl wf)), (b, .inl (G.2.1, cp, .inl bf))]) := by
  refine ofB (cc := cX1_removeFirst) (maxL := 2) (ret := none) (by decide) rfl (Nat.le_of_ble_eq_true rfl) ?_
  intro p e s m below meth c hx hb hr hlocks hml hown hin hts hE hI ls hl
  replace hown : s.vm.findClass RX1 = some m.cls := hown
  have hl : lv_has ls 2 [(0, .ref a)] := hl
  obtain ⟨hP, hD0⟩ := hI
  have hD : va_D (inW [(a, .inr (1, [.ref w, .ref b, .int (nI n), .int x])), (w, .inl (G.2.1, cp, .inl wf)), (b, .inl (G.2.1, cp, .inl bf))]) [(a, .inr (1, [.ref w, .ref b, .int (nI n), .int x])), (w, .inl (G.2.1, cp, .inl wf)), (b, .inl (G.2.1, cp, .inl bf))] := D_self hD0
  obtain ⟨A, hAe⟩ : ∃ A, A = inW [(a, .inr (1, [.ref w, .ref b, .int (nI n), .int x])), (w, .inl (G.2.1, cp, .inl wf)), (b, .inl (G.2.1, cp, .inl bf))] := ⟨_, rfl⟩
  rw [← hAe] at hD ⊢
  have hS : va_S A s.heap s.heap [] := va_S.rf
  obtain ⟨H, hHe⟩ : ∃ H, H = s.heap := ⟨_, rfl⟩
  obtain ⟨locs, hle⟩ : ∃ q : List Loc, q = [] := ⟨_, rfl⟩
  rw [← hle] at hS ⊢
  have hP : va_P G.1 vwCl [(a, .inr (1, [.ref w, .ref b, .int (nI n), .int x])), (w, .inl (G.2.1, cp, .inl wf)), (b, .inl (G.2.1, cp, .inl bf))] H := by rw [hHe]; exact hP
  replace hS : va_S A s.heap H locs := by rw [hHe]; exact hS
  refine tH hHe ?_
  have w_0 : ∀ w ∈ u_ws RX1 TX1 4, w ∈ wsX1_removeFirst := by decide +kernel
  have w_1 := hts (.fieldLink RX1 18 "CableFerry$Line" "size" "I") (by decide +kernel)
  have w_2 := hts (.fieldLink RX1 22 "CableFerry$Line" "weight" "I") (by decide +kernel)
  have w_3 := hts (.fieldLink RX1 9 "CableFerry$Line" "weights" "[I") (by decide +kernel)
  have w_4 := hts (.static yX5_at) (by decide +kernel)
  have w_5 := hts (.static yX5_put) (by decide +kernel)
  have w_6 := hts (.fieldLink RX1 15 "CableFerry$Line" "banks" "[I") (by decide +kernel)
  skip
  refine lv_aload_n hx hb dX1_removeFirst_0 rfl (lv_at hl 0 rfl) ?_
  refine va_get (D := G.1) (ci := 1) (v := .int (nI n)) (C := RX1) (T := TX1) (N := 4) hx hb hts w_0 hown hE.1 hP 0 rfl rfl 2 (by decide) w_1 (fun _ h9 => h9) rfl dX1_removeFirst_1 ?_
  refine if_neN (tgt := 8) hx hb (by omega) dX1_removeFirst_4 (by decide) (fun c4 => ?_) (fun c4 => ?_)
  · skip
    refine lv_aload_n hx hb dX1_removeFirst_8 rfl (lv_at hl 0 rfl) ?_
    refine lv_dup hx hb dX1_removeFirst_9 rfl ?_
    refine va_get (D := G.1) (ci := 1) (v := .int x) (C := RX1) (T := TX1) (N := 4) hx hb hts w_0 hown hE.1 hP 0 rfl rfl 3 (by decide) w_2 (fun _ h9 => h9) rfl dX1_removeFirst_10 ?_
    refine lv_aload_n hx hb dX1_removeFirst_13 rfl (lv_at hl 0 rfl) ?_
    refine va_get (D := G.1) (ci := 1) (v := .ref w) (C := RX1) (T := TX1) (N := 4) hx hb hts w_0 hown hE.1 hP 0 rfl rfl 0 (by decide) w_3 (fun _ h9 => h9) rfl dX1_removeFirst_14 ?_
    refine lv_iconst (v := nI 0) hx hb dX1_removeFirst_17 (by decide +kernel) ?_
    refine pcall (st1 := [.int (wf 0), .int x, .ref a]) (va_runSN (As := [.ref w, .int (nI 0)]) (rest := [.int x, .ref a]) ⟨hx, hb, hml, hown, hts⟩ (c_X5_at l G w cp wf 0 (by omega) (by omega)) ⟨va_cnB 2 hts gX1_removeFirst_X5_at_n29 rfl rfl rfl (hE.2 (RX1, 29, yX5_at) (by decide +kernel)) (hts (.initialized RX5) (by decide +kernel)) (by decide +kernel) ⟨Nat.le_of_ble_eq_true rfl, Nat.le_of_ble_eq_true rfl⟩, w_4, trivial⟩ (PC.preS hE (hP.sub [1] rfl)) rfl rfl hl.1 rfl (lv_room (Nat.le_of_ble_eq_true rfl)) dX1_removeFirst_18 ⟨Nat.zero_le _, Nat.zero_le _⟩) rfl ?_
    refine lv_isub hx hb dX1_removeFirst_21 ?_
    refine va_put (D := G.1) (ci := 1) (v := .int (x - (wf 0))) (ty := .int) (C := RX1) (T := TX1) (N := 4) hx hb hts w_0 tyX1 tyX1_ok nmX1 hown hE.1 hP hD hS 0 rfl rfl 3 (by decide) w_2 (fun _ h9 => h9) rfl (by decide +kernel) rfl rfl (Nat.le_of_ble_eq_true rfl) dX1_removeFirst_22 (fun H locs hP hD hS => ?_)
    have hP : va_P G.1 vwCl [(a, .inr (1, [.ref w, .ref b, .int (nI n), .int (x - (wf 0))])), (w, .inl (G.2.1, cp, .inl wf)), (b, .inl (G.2.1, cp, .inl bf))] H := hP
    have hD : va_D A [(a, .inr (1, [.ref w, .ref b, .int (nI n), .int (x - (wf 0))])), (w, .inl (G.2.1, cp, .inl wf)), (b, .inl (G.2.1, cp, .inl bf))] := hD
    refine lv_iconst (v := nI 1) hx hb dX1_removeFirst_25 (by decide +kernel) ?_
    refine lv_istore_n (lv' := [(1, .int (nI 1)), (0, .ref a)]) hx hb dX1_removeFirst_26 rfl hl (by decide) rfl (fun ls hl => ?_)
    refine loopH (σ := Nat) (n := 2) (pc1 := 27) (fun i => n - i) (fun i => 1 ≤ i ∧ i ≤ n) (fun i => fun (H : Heap) (locs : List Loc) => va_P G.1 vwCl [(a, .inr (1, [.ref w, .ref b, .int (nI n), .int (x - wf 0)])), (w, .inl (G.2.1, cp, .inl (shf wf i))), (b, .inl (G.2.1, cp, .inl (shf bf i)))] H ∧ va_D A [(a, .inr (1, [.ref w, .ref b, .int (nI n), .int (x - wf 0)])), (w, .inl (G.2.1, cp, .inl (shf wf i))), (b, .inl (G.2.1, cp, .inl (shf bf i)))] ∧ va_S A s.heap H locs) (fun i => [(1, .int (nI i)), (0, .ref a)]) (fun i => []) ?_ (1) H _ _ ⟨by omega, by omega⟩ (by (try dsimp only); rw [shf_1, shf_1]; exact ⟨hP, hD, hS⟩) (lv_sub hl [0, 1] rfl)
    rintro i H locs ls hI ⟨hP, hD, hS⟩ hl ih27
    have hl : lv_has ls 2 [(1, .int (nI i)), (0, .ref a)] := hl
    replace hI : 1 ≤ i ∧ i ≤ n := hI
    have hP : va_P G.1 vwCl [(a, .inr (1, [.ref w, .ref b, .int (nI n), .int (x - wf 0)])), (w, .inl (G.2.1, cp, .inl (shf wf i))), (b, .inl (G.2.1, cp, .inl (shf bf i)))] H := hP
    have hD : va_D A [(a, .inr (1, [.ref w, .ref b, .int (nI n), .int (x - wf 0)])), (w, .inl (G.2.1, cp, .inl (shf wf i))), (b, .inl (G.2.1, cp, .inl (shf bf i)))] := hD
    refine tS (st' := []) rfl ?_
    refine lv_iload_n hx hb dX1_removeFirst_27 rfl (lv_at hl 0 rfl) ?_
    refine lv_aload_n hx hb dX1_removeFirst_28 rfl (lv_at hl 1 rfl) ?_
    refine va_get (D := G.1) (ci := 1) (v := .int (nI n)) (C := RX1) (T := TX1) (N := 4) hx hb hts w_0 hown hE.1 hP 0 rfl rfl 2 (by decide) w_1 (fun _ h9 => h9) rfl dX1_removeFirst_29 ?_
    refine icmp_geN (tgt := 77) hx hb (by omega) (by omega) dX1_removeFirst_32 (by decide) (fun c32 => ?_) (fun c32 => ?_)
    · skip
      have hin9 : i = n := by omega
      rw [hin9] at hP hD
      have hP : va_P G.1 vwCl [(a, .inr (1, [.ref w, .ref b, .int (nI n), .int (x - wf 0)])), (w, .inl (G.2.1, cp, .inl (shf wf n))), (b, .inl (G.2.1, cp, .inl (shf bf n)))] H := hP
      have hD : va_D A [(a, .inr (1, [.ref w, .ref b, .int (nI n), .int (x - wf 0)])), (w, .inl (G.2.1, cp, .inl (shf wf n))), (b, .inl (G.2.1, cp, .inl (shf bf n)))] := hD
      refine lv_aload_n hx hb dX1_removeFirst_77 rfl (lv_at hl 1 rfl) ?_
      refine lv_dup hx hb dX1_removeFirst_78 rfl ?_
      refine va_get (D := G.1) (ci := 1) (v := .int (nI n)) (C := RX1) (T := TX1) (N := 4) hx hb hts w_0 hown hE.1 hP 0 rfl rfl 2 (by decide) w_1 (fun _ h9 => h9) rfl dX1_removeFirst_79 ?_
      refine lv_iconst (v := nI 1) hx hb dX1_removeFirst_82 (by decide +kernel) ?_
      refine isubN hx hb (by omega) dX1_removeFirst_83 ?_
      refine va_put (D := G.1) (ci := 1) (v := .int (nI (n - 1))) (ty := .int) (C := RX1) (T := TX1) (N := 4) hx hb hts w_0 tyX1 tyX1_ok nmX1 hown hE.1 hP hD hS 0 rfl rfl 2 (by decide) w_1 (fun _ h9 => h9) rfl (by decide +kernel) rfl rfl (Nat.le_of_ble_eq_true rfl) dX1_removeFirst_84 (fun H locs hP hD hS => ?_)
      have hP : va_P G.1 vwCl [(a, .inr (1, [.ref w, .ref b, .int (nI (n - 1)), .int (x - wf 0)])), (w, .inl (G.2.1, cp, .inl (shf wf n))), (b, .inl (G.2.1, cp, .inl (shf bf n)))] H := hP
      have hD : va_D A [(a, .inr (1, [.ref w, .ref b, .int (nI (n - 1)), .int (x - wf 0)])), (w, .inl (G.2.1, cp, .inl (shf wf n))), (b, .inl (G.2.1, cp, .inl (shf bf n)))] := hD
      exact W.vret hx hb hr (fun t ht hW => ⟨rfl, by rw [ht]; exact ⟨hP, hD⟩, hS.F ht⟩) hS.2.2 dX1_removeFirst_87
    · skip
      refine lv_aload_n hx hb dX1_removeFirst_35 rfl (lv_at hl 1 rfl) ?_
      refine va_get (D := G.1) (ci := 1) (v := .ref w) (C := RX1) (T := TX1) (N := 4) hx hb hts w_0 hown hE.1 hP 0 rfl rfl 0 (by decide) w_3 (fun _ h9 => h9) rfl dX1_removeFirst_36 ?_
      refine lv_iload_n hx hb dX1_removeFirst_39 rfl (lv_at hl 0 rfl) ?_
      refine lv_iconst (v := nI 1) hx hb dX1_removeFirst_40 (by decide +kernel) ?_
      refine isubN hx hb (by omega) dX1_removeFirst_41 ?_
      refine lv_aload_n hx hb dX1_removeFirst_42 rfl (lv_at hl 1 rfl) ?_
      refine va_get (D := G.1) (ci := 1) (v := .ref w) (C := RX1) (T := TX1) (N := 4) hx hb hts w_0 hown hE.1 hP 0 rfl rfl 0 (by decide) w_3 (fun _ h9 => h9) rfl dX1_removeFirst_43 ?_
      refine lv_iload_n hx hb dX1_removeFirst_46 rfl (lv_at hl 0 rfl) ?_
      refine pcall (st1 := [.int ((shf wf i) i), .int (nI (i - 1)), .ref w]) (va_runSN (As := [.ref w, .int (nI i)]) (rest := [.int (nI (i - 1)), .ref w]) ⟨hx, hb, hml, hown, hts⟩ (c_X5_at l G w cp (shf wf i) i (by omega) (by omega)) ⟨va_cnB 2 hts gX1_removeFirst_X5_at_n29 rfl rfl rfl (hE.2 (RX1, 29, yX5_at) (by decide +kernel)) (hts (.initialized RX5) (by decide +kernel)) (by decide +kernel) ⟨Nat.le_of_ble_eq_true rfl, Nat.le_of_ble_eq_true rfl⟩, w_4, trivial⟩ (PC.preS hE (hP.sub [1] rfl)) rfl rfl hl.1 rfl (lv_room (Nat.le_of_ble_eq_true rfl)) dX1_removeFirst_47 ⟨Nat.zero_le _, Nat.zero_le _⟩) rfl ?_
      refine tI (y := wf i) (shf_o) ?_
      have hPc := hP.sub (ws' := [(w, .inl (G.2.1, cp, .inl (shf wf i)))]) [1] rfl
      have hDc := hD.sub (ws' := [(w, .inl (G.2.1, cp, .inl (shf wf i)))]) [1] (by decide) rfl
      refine mcall (st1 := []) (va_runSN (As := [.ref w, .int (nI (i - 1)), .int (wf i)]) (rest := []) ⟨hx, hb, hml, hown, hts⟩ (c_X5_put l G w cp (shf wf i) (i - 1) (wf i) (by omega) (by omega)) ⟨va_cnB 3 hts gX1_removeFirst_X5_put_n37 rfl rfl rfl (hE.2 (RX1, 37, yX5_put) (by decide +kernel)) (hts (.initialized RX5) (by decide +kernel)) (by decide +kernel) ⟨Nat.le_of_ble_eq_true rfl, Nat.le_of_ble_eq_true rfl⟩, w_5, trivial⟩ (PC.preS hE ⟨hPc, hDc.weaken (fun _ _ _ _ => trivial)⟩) rfl rfl hl.1 rfl (lv_room (Nat.le_of_ble_eq_true rfl)) dX1_removeFirst_50 ⟨Nat.zero_le _, Nat.zero_le _⟩) hS (fun q _ h => inW_D hDc q h) (fun q h => inW_D hDc q h) rfl (fun H1 locs1 hB hz1 hk1 hS => ?_)
      obtain ⟨hP1, hD1⟩ := hB
      obtain ⟨hP, hD⟩ := jnW (wr := [(a, .inr (1, [.ref w, .ref b, .int (nI n), .int (x - wf 0)])), (b, .inl (G.2.1, cp, .inl (shf bf i)))]) (w1 := [(w, .inl (G.2.1, cp, .inl (upd (shf wf i) (i - 1) (wf i))))]) hP hD [1] [0, 2] rfl rfl (by decide) (by decide) hk1 hP1 hD1
      generalize H1 = H at hP hS ⊢
      replace hP := hP.sub (ws' := [(a, .inr (1, [.ref w, .ref b, .int (nI n), .int (x - wf 0)])), (w, .inl (G.2.1, cp, .inl (upd (shf wf i) (i - 1) (wf i)))), (b, .inl (G.2.1, cp, .inl (shf bf i)))]) [0, 2, 1] rfl
      replace hD := hD.sub (ws' := [(a, .inr (1, [.ref w, .ref b, .int (nI n), .int (x - wf 0)])), (w, .inl (G.2.1, cp, .inl (upd (shf wf i) (i - 1) (wf i)))), (b, .inl (G.2.1, cp, .inl (shf bf i)))]) [0, 2, 1] (by decide) rfl
      have hP : va_P G.1 vwCl [(a, .inr (1, [.ref w, .ref b, .int (nI n), .int (x - wf 0)])), (w, .inl (G.2.1, cp, .inl (upd (shf wf i) (i - 1) (wf i)))), (b, .inl (G.2.1, cp, .inl (shf bf i)))] H := hP
      have hD : va_D A [(a, .inr (1, [.ref w, .ref b, .int (nI n), .int (x - wf 0)])), (w, .inl (G.2.1, cp, .inl (upd (shf wf i) (i - 1) (wf i)))), (b, .inl (G.2.1, cp, .inl (shf bf i)))] := hD
      refine lv_aload_n hx hb dX1_removeFirst_53 rfl (lv_at hl 1 rfl) ?_
      refine va_get (D := G.1) (ci := 1) (v := .ref b) (C := RX1) (T := TX1) (N := 4) hx hb hts w_0 hown hE.1 hP 0 rfl rfl 1 (by decide) w_6 (fun _ h9 => h9) rfl dX1_removeFirst_54 ?_
      refine lv_iload_n hx hb dX1_removeFirst_57 rfl (lv_at hl 0 rfl) ?_
      refine lv_iconst (v := nI 1) hx hb dX1_removeFirst_58 (by decide +kernel) ?_
      refine isubN hx hb (by omega) dX1_removeFirst_59 ?_
      refine lv_aload_n hx hb dX1_removeFirst_60 rfl (lv_at hl 1 rfl) ?_
      refine va_get (D := G.1) (ci := 1) (v := .ref b) (C := RX1) (T := TX1) (N := 4) hx hb hts w_0 hown hE.1 hP 0 rfl rfl 1 (by decide) w_6 (fun _ h9 => h9) rfl dX1_removeFirst_61 ?_
      refine lv_iload_n hx hb dX1_removeFirst_64 rfl (lv_at hl 0 rfl) ?_
      refine pcall (st1 := [.int ((shf bf i) i), .int (nI (i - 1)), .ref b]) (va_runSN (As := [.ref b, .int (nI i)]) (rest := [.int (nI (i - 1)), .ref b]) ⟨hx, hb, hml, hown, hts⟩ (c_X5_at l G b cp (shf bf i) i (by omega) (by omega)) ⟨va_cnB 2 hts gX1_removeFirst_X5_at_n29 rfl rfl rfl (hE.2 (RX1, 29, yX5_at) (by decide +kernel)) (hts (.initialized RX5) (by decide +kernel)) (by decide +kernel) ⟨Nat.le_of_ble_eq_true rfl, Nat.le_of_ble_eq_true rfl⟩, w_4, trivial⟩ (PC.preS hE (hP.sub [2] rfl)) rfl rfl hl.1 rfl (lv_room (Nat.le_of_ble_eq_true rfl)) dX1_removeFirst_65 ⟨Nat.zero_le _, Nat.zero_le _⟩) rfl ?_
      refine tI (y := bf i) (shf_o) ?_
      have hPc := hP.sub (ws' := [(b, .inl (G.2.1, cp, .inl (shf bf i)))]) [2] rfl
      have hDc := hD.sub (ws' := [(b, .inl (G.2.1, cp, .inl (shf bf i)))]) [2] (by decide) rfl
      refine mcall (st1 := []) (va_runSN (As := [.ref b, .int (nI (i - 1)), .int (bf i)]) (rest := []) ⟨hx, hb, hml, hown, hts⟩ (c_X5_put l G b cp (shf bf i) (i - 1) (bf i) (by omega) (by omega)) ⟨va_cnB 3 hts gX1_removeFirst_X5_put_n37 rfl rfl rfl (hE.2 (RX1, 37, yX5_put) (by decide +kernel)) (hts (.initialized RX5) (by decide +kernel)) (by decide +kernel) ⟨Nat.le_of_ble_eq_true rfl, Nat.le_of_ble_eq_true rfl⟩, w_5, trivial⟩ (PC.preS hE ⟨hPc, hDc.weaken (fun _ _ _ _ => trivial)⟩) rfl rfl hl.1 rfl (lv_room (Nat.le_of_ble_eq_true rfl)) dX1_removeFirst_68 ⟨Nat.zero_le _, Nat.zero_le _⟩) hS (fun q _ h => inW_D hDc q h) (fun q h => inW_D hDc q h) rfl (fun H1 locs1 hB hz1 hk1 hS => ?_)
      obtain ⟨hP1, hD1⟩ := hB
      obtain ⟨hP, hD⟩ := jnW (wr := [(a, .inr (1, [.ref w, .ref b, .int (nI n), .int (x - wf 0)])), (w, .inl (G.2.1, cp, .inl (upd (shf wf i) (i - 1) (wf i))))]) (w1 := [(b, .inl (G.2.1, cp, .inl (upd (shf bf i) (i - 1) (bf i))))]) hP hD [2] [0, 1] rfl rfl (by decide) (by decide) hk1 hP1 hD1
      generalize H1 = H at hP hS ⊢
      have hP : va_P G.1 vwCl [(a, .inr (1, [.ref w, .ref b, .int (nI n), .int (x - wf 0)])), (w, .inl (G.2.1, cp, .inl (upd (shf wf i) (i - 1) (wf i)))), (b, .inl (G.2.1, cp, .inl (upd (shf bf i) (i - 1) (bf i))))] H := hP
      have hD : va_D A [(a, .inr (1, [.ref w, .ref b, .int (nI n), .int (x - wf 0)])), (w, .inl (G.2.1, cp, .inl (upd (shf wf i) (i - 1) (wf i)))), (b, .inl (G.2.1, cp, .inl (upd (shf bf i) (i - 1) (bf i))))] := hD
      refine lv_iinc (v := nI (i + 1)) (lv' := [(1, .int (nI (i + 1))), (0, .ref a)]) hx hb dX1_removeFirst_71 hl (k := 0) rfl (nI_inc1 _) (by decide) rfl (fun ls hl => ?_)
      refine lv_goto (tgt := 27) hx hb dX1_removeFirst_74 (by decide) ?_
      exact ih27 (i + 1) _ _ _ ⟨by omega, by omega⟩ (by (try dsimp only); rw [shf_s hI.1, shf_s hI.1] at hP hD; exact ⟨hP, hD, hS⟩) (lv_sub hl [0, 1] rfl) (by (try dsimp only); omega)
  · skip
    omega
set_option maxHeartbeats 4000000 in
set_option maxRecDepth 100000 in
theorem c_X1_clear (l : Launch) (G : eG) (a w b cp : Nat) (n : Nat) (x : Int32) (wf bf : Nat → Int32) (hcp : cp ≤ 10) (hn : n ≤ cp) : Met l yX1_clear wsX1_clear ({ frames := 0, cells := 0, slots := 0, locals := 0 }) (PC [.ref a] G (fun H => va_P G.1 vwCl [(a, .inr (1, [.ref w, .ref b, .int (nI n), .int x])), (w, .inl (G.2.1, cp, .inl wf)), (b, .inl (G.2.1, cp, .inl bf))] H ∧ va_D (fun _ => True) [(a, .inr (1, [.ref w, .ref b, .int (nI n), .int x])), (w, .inl (G.2.1, cp, .inl wf)), (b, .inl (G.2.1, cp, .inl bf))])) (MV (none) (fun H => va_P G.1 vwCl [(a, .inr (1, [.ref w, .ref b, .int (nI 0), .int (nI 0)])), (w, .inl (G.2.1, cp, .inl wf)), (b, .inl (G.2.1, cp, .inl bf))] H ∧ va_D (inW [(a, .inr (1, [.ref w, .ref b, .int (nI n), .int x])), (w, .inl (G.2.1, cp, .inl wf)), (b, .inl (G.2.1, cp, .inl bf))]) [(a, .inr (1, [.ref w, .ref b, .int (nI 0), .int (nI 0)])), (w, .inl (G.2.1, cp, .inl wf)), (b, .inl (G.2.1, cp, .inl bf))]) (inW [(a, .inr (1, [.ref w, .ref b, .int (nI n), .int x])), (w, .inl (G.2.1, cp, .inl wf)), (b, .inl (G.2.1, cp, .inl bf))])) 0 0 (inW [(a, .inr (1, [.ref w, .ref b, .int (nI n), .int x])), (w, .inl (G.2.1, cp, .inl wf)), (b, .inl (G.2.1, cp, .inl bf))]) := by
  refine ofB (cc := cX1_clear) (maxL := 1) (ret := none) (by decide) rfl (Nat.le_of_ble_eq_true rfl) ?_
  intro p e s m below meth c hx hb hr hlocks hml hown hin hts hE hI ls hl
  replace hown : s.vm.findClass RX1 = some m.cls := hown
  have hl : lv_has ls 1 [(0, .ref a)] := hl
  obtain ⟨hP, hD0⟩ := hI
  have hD : va_D (inW [(a, .inr (1, [.ref w, .ref b, .int (nI n), .int x])), (w, .inl (G.2.1, cp, .inl wf)), (b, .inl (G.2.1, cp, .inl bf))]) [(a, .inr (1, [.ref w, .ref b, .int (nI n), .int x])), (w, .inl (G.2.1, cp, .inl wf)), (b, .inl (G.2.1, cp, .inl bf))] := D_self hD0
  obtain ⟨A, hAe⟩ : ∃ A, A = inW [(a, .inr (1, [.ref w, .ref b, .int (nI n), .int x])), (w, .inl (G.2.1, cp, .inl wf)), (b, .inl (G.2.1, cp, .inl bf))] := ⟨_, rfl⟩
  rw [← hAe] at hD ⊢
  have hS : va_S A s.heap s.heap [] := va_S.rf
  obtain ⟨H, hHe⟩ : ∃ H, H = s.heap := ⟨_, rfl⟩
  obtain ⟨locs, hle⟩ : ∃ q : List Loc, q = [] := ⟨_, rfl⟩
  rw [← hle] at hS ⊢
  have hP : va_P G.1 vwCl [(a, .inr (1, [.ref w, .ref b, .int (nI n), .int x])), (w, .inl (G.2.1, cp, .inl wf)), (b, .inl (G.2.1, cp, .inl bf))] H := by rw [hHe]; exact hP
  replace hS : va_S A s.heap H locs := by rw [hHe]; exact hS
  refine tH hHe ?_
  have w_0 : ∀ w ∈ u_ws RX1 TX1 4, w ∈ wsX1_clear := by decide +kernel
  have w_1 := hts (.fieldLink RX1 18 "CableFerry$Line" "size" "I") (by decide +kernel)
  have w_2 := hts (.fieldLink RX1 22 "CableFerry$Line" "weight" "I") (by decide +kernel)
  skip
  refine lv_aload_n hx hb dX1_clear_0 rfl (lv_at hl 0 rfl) ?_
  refine lv_iconst (v := nI 0) hx hb dX1_clear_1 (by decide +kernel) ?_
  refine va_put (D := G.1) (ci := 1) (v := .int (nI 0)) (ty := .int) (C := RX1) (T := TX1) (N := 4) hx hb hts w_0 tyX1 tyX1_ok nmX1 hown hE.1 hP hD hS 0 rfl rfl 2 (by decide) w_1 (fun _ h9 => h9) rfl (by decide +kernel) rfl rfl (Nat.le_of_ble_eq_true rfl) dX1_clear_2 (fun H locs hP hD hS => ?_)
  have hP : va_P G.1 vwCl [(a, .inr (1, [.ref w, .ref b, .int (nI 0), .int x])), (w, .inl (G.2.1, cp, .inl wf)), (b, .inl (G.2.1, cp, .inl bf))] H := hP
  have hD : va_D A [(a, .inr (1, [.ref w, .ref b, .int (nI 0), .int x])), (w, .inl (G.2.1, cp, .inl wf)), (b, .inl (G.2.1, cp, .inl bf))] := hD
  refine lv_aload_n hx hb dX1_clear_5 rfl (lv_at hl 0 rfl) ?_
  refine lv_iconst (v := nI 0) hx hb dX1_clear_6 (by decide +kernel) ?_
  refine va_put (D := G.1) (ci := 1) (v := .int (nI 0)) (ty := .int) (C := RX1) (T := TX1) (N := 4) hx hb hts w_0 tyX1 tyX1_ok nmX1 hown hE.1 hP hD hS 0 rfl rfl 3 (by decide) w_2 (fun _ h9 => h9) rfl (by decide +kernel) rfl rfl (Nat.le_of_ble_eq_true rfl) dX1_clear_7 (fun H locs hP hD hS => ?_)
  have hP : va_P G.1 vwCl [(a, .inr (1, [.ref w, .ref b, .int (nI 0), .int (nI 0)])), (w, .inl (G.2.1, cp, .inl wf)), (b, .inl (G.2.1, cp, .inl bf))] H := hP
  have hD : va_D A [(a, .inr (1, [.ref w, .ref b, .int (nI 0), .int (nI 0)])), (w, .inl (G.2.1, cp, .inl wf)), (b, .inl (G.2.1, cp, .inl bf))] := hD
  exact W.vret hx hb hr (fun t ht hW => ⟨rfl, by rw [ht]; exact ⟨hP, hD⟩, hS.F ht⟩) hS.2.2 dX1_clear_10
set_option maxHeartbeats 4000000 in
set_option maxRecDepth 100000 in
theorem c_X1_copyFrom (l : Launch) (G : eG) (a w b a9 w9 b9 cp : Nat) (n : Nat) (x : Int32) (wf bf : Nat → Int32) (n9 : Nat) (x9 : Int32) (wf9 bf9 : Nat → Int32) (hcp : cp ≤ 10) (hn : n ≤ cp) (hn9 : n9 ≤ cp) : Met l yX1_copyFrom wsX1_copyFrom ({ frames := 2, cells := 0, slots := 0, locals := 61 }) (PC [.ref a, .ref a9] G (fun H => va_P G.1 vwCl [(a, .inr (1, [.ref w, .ref b, .int (nI n), .int x])), (w, .inl (G.2.1, cp, .inl wf)), (b, .inl (G.2.1, cp, .inl bf)), (a9, .inr (1, [.ref w9, .ref b9, .int (nI n9), .int x9])), (w9, .inl (G.2.1, cp, .inl wf9)), (b9, .inl (G.2.1, cp, .inl bf9))] H ∧ va_D (fun _ => True) [(a, .inr (1, [.ref w, .ref b, .int (nI n), .int x])), (w, .inl (G.2.1, cp, .inl wf)), (b, .inl (G.2.1, cp, .inl bf)), (a9, .inr (1, [.ref w9, .ref b9, .int (nI n9), .int x9])), (w9, .inl (G.2.1, cp, .inl wf9)), (b9, .inl (G.2.1, cp, .inl bf9))])) (MV (none) (fun H => va_P G.1 vwCl [(a, .inr (1, [.ref w, .ref b, .int (nI n9), .int x9])), (w, .inl (G.2.1, cp, .inl wf9)), (b, .inl (G.2.1, cp, .inl bf9)), (a9, .inr (1, [.ref w9, .ref b9, .int (nI n9), .int x9])), (w9, .inl (G.2.1, cp, .inl wf9)), (b9, .inl (G.2.1, cp, .inl bf9))] H ∧ va_D (inW [(a, .inr (1, [.ref w, .ref b, .int (nI n), .int x])), (w, .inl (G.2.1, cp, .inl wf)), (b, .inl (G.2.1, cp, .inl bf)), (a9, .inr (1, [.ref w9, .ref b9, .int (nI n9), .int x9])), (w9, .inl (G.2.1, cp, .inl wf9)), (b9, .inl (G.2.1, cp, .inl bf9))]) [(a, .inr (1, [.ref w, .ref b, .int (nI n9), .int x9])), (w, .inl (G.2.1, cp, .inl wf9)), (b, .inl (G.2.1, cp, .inl bf9)), (a9, .inr (1, [.ref w9, .ref b9, .int (nI n9), .int x9])), (w9, .inl (G.2.1, cp, .inl wf9)), (b9, .inl (G.2.1, cp, .inl bf9))]) (inW [(a, .inr (1, [.ref w, .ref b, .int (nI n), .int x])), (w, .inl (G.2.1, cp, .inl wf)), (b, .inl (G.2.1, cp, .inl bf)), (a9, .inr (1, [.ref w9, .ref b9, .int (nI n9), .int x9])), (w9, .inl (G.2.1, cp, .inl wf9)), (b9, .inl (G.2.1, cp, .inl bf9))])) 0 0 (inW [(a, .inr (1, [.ref w, .ref b, .int (nI n), .int x])), (w, .inl (G.2.1, cp, .inl wf)), (b, .inl (G.2.1, cp, .inl bf)), (a9, .inr (1, [.ref w9, .ref b9, .int (nI n9), .int x9])), (w9, .inl (G.2.1, cp, .inl wf9)), (b9, .inl (G.2.1, cp, .inl bf9))]) := by
  refine ofB (cc := cX1_copyFrom) (maxL := 2) (ret := none) (by decide) rfl (Nat.le_of_ble_eq_true rfl) ?_
  intro p e s m below meth c hx hb hr hlocks hml hown hin hts hE hI ls hl
  replace hown : s.vm.findClass RX1 = some m.cls := hown
  have hl : lv_has ls 2 [(0, .ref a), (1, .ref a9)] := hl
  obtain ⟨hP, hD0⟩ := hI
  have hD : va_D (inW [(a, .inr (1, [.ref w, .ref b, .int (nI n), .int x])), (w, .inl (G.2.1, cp, .inl wf)), (b, .inl (G.2.1, cp, .inl bf)), (a9, .inr (1, [.ref w9, .ref b9, .int (nI n9), .int x9])), (w9, .inl (G.2.1, cp, .inl wf9)), (b9, .inl (G.2.1, cp, .inl bf9))]) [(a, .inr (1, [.ref w, .ref b, .int (nI n), .int x])), (w, .inl (G.2.1, cp, .inl wf)), (b, .inl (G.2.1, cp, .inl bf)), (a9, .inr (1, [.ref w9, .ref b9, .int (nI n9), .int x9])), (w9, .inl (G.2.1, cp, .inl wf9)), (b9, .inl (G.2.1, cp, .inl bf9))] := D_self hD0
  obtain ⟨A, hAe⟩ : ∃ A, A = inW [(a, .inr (1, [.ref w, .ref b, .int (nI n), .int x])), (w, .inl (G.2.1, cp, .inl wf)), (b, .inl (G.2.1, cp, .inl bf)), (a9, .inr (1, [.ref w9, .ref b9, .int (nI n9), .int x9])), (w9, .inl (G.2.1, cp, .inl wf9)), (b9, .inl (G.2.1, cp, .inl bf9))] := ⟨_, rfl⟩
  rw [← hAe] at hD ⊢
  have hS : va_S A s.heap s.heap [] := va_S.rf
  obtain ⟨H, hHe⟩ : ∃ H, H = s.heap := ⟨_, rfl⟩
  obtain ⟨locs, hle⟩ : ∃ q : List Loc, q = [] := ⟨_, rfl⟩
  rw [← hle] at hS ⊢
  have hP : va_P G.1 vwCl [(a, .inr (1, [.ref w, .ref b, .int (nI n), .int x])), (w, .inl (G.2.1, cp, .inl wf)), (b, .inl (G.2.1, cp, .inl bf)), (a9, .inr (1, [.ref w9, .ref b9, .int (nI n9), .int x9])), (w9, .inl (G.2.1, cp, .inl wf9)), (b9, .inl (G.2.1, cp, .inl bf9))] H := by rw [hHe]; exact hP
  replace hS : va_S A s.heap H locs := by rw [hHe]; exact hS
  refine tH hHe ?_
  have w_0 : ∀ w ∈ u_ws RX1 TX1 4, w ∈ wsX1_copyFrom := by decide +kernel
  have w_1 := hts (.fieldLink RX1 9 "CableFerry$Line" "weights" "[I") (by decide +kernel)
  have w_2 := hts (.static yX5_copyRow) (by decide +kernel)
  have w_3 := hts (.fieldLink RX1 15 "CableFerry$Line" "banks" "[I") (by decide +kernel)
  have w_4 := hts (.fieldLink RX1 18 "CableFerry$Line" "size" "I") (by decide +kernel)
  have w_5 := hts (.fieldLink RX1 22 "CableFerry$Line" "weight" "I") (by decide +kernel)
  skip
  refine lv_aload_n hx hb dX1_copyFrom_0 rfl (lv_at hl 1 rfl) ?_
  refine va_get (D := G.1) (ci := 1) (v := .ref w9) (C := RX1) (T := TX1) (N := 4) hx hb hts w_0 hown hE.1 hP 3 rfl rfl 0 (by decide) w_1 (fun _ h9 => h9) rfl dX1_copyFrom_1 ?_
  refine lv_aload_n hx hb dX1_copyFrom_4 rfl (lv_at hl 0 rfl) ?_
  refine va_get (D := G.1) (ci := 1) (v := .ref w) (C := RX1) (T := TX1) (N := 4) hx hb hts w_0 hown hE.1 hP 0 rfl rfl 0 (by decide) w_1 (fun _ h9 => h9) rfl dX1_copyFrom_5 ?_
  have hPc := hP.sub (ws' := [(w9, .inl (G.2.1, cp, .inl wf9)), (w, .inl (G.2.1, cp, .inl wf))]) [4, 1] rfl
  have hDc := hD.sub (ws' := [(w9, .inl (G.2.1, cp, .inl wf9)), (w, .inl (G.2.1, cp, .inl wf))]) [4, 1] (by decide) rfl
  refine mcall (st1 := []) (va_runSN (As := [.ref w9, .ref w]) (rest := []) ⟨hx, hb, hml, hown, hts⟩ (c_X5_copyRow l G w9 w cp wf9 wf (by omega)) ⟨va_cnB 2 hts gX1_copyFrom_X5_copyRow_n25 rfl rfl rfl (hE.2 (RX1, 25, yX5_copyRow) (by decide +kernel)) (hts (.initialized RX5) (by decide +kernel)) (by decide +kernel) ⟨Nat.le_of_ble_eq_true rfl, Nat.le_of_ble_eq_true rfl⟩, w_2, trivial⟩ (PC.preS hE ⟨hPc, hDc.weaken (fun _ _ _ _ => trivial)⟩) rfl rfl hl.1 rfl (lv_room (Nat.le_of_ble_eq_true rfl)) dX1_copyFrom_8 ⟨Nat.zero_le _, Nat.zero_le _⟩) hS (fun q _ h => inW_D hDc q h) (fun q h => inW_D hDc q h) rfl (fun H1 locs1 hB hz1 hk1 hS => ?_)
  obtain ⟨hP1, hD1⟩ := hB
  obtain ⟨hP, hD⟩ := jnW (wr := [(a, .inr (1, [.ref w, .ref b, .int (nI n), .int x])), (b, .inl (G.2.1, cp, .inl bf)), (a9, .inr (1, [.ref w9, .ref b9, .int (nI n9), .int x9])), (b9, .inl (G.2.1, cp, .inl bf9))]) (w1 := [(w9, .inl (G.2.1, cp, .inl wf9)), (w, .inl (G.2.1, cp, .inl wf9))]) hP hD [4, 1] [0, 2, 3, 5] rfl rfl (by decide) (by decide) hk1 hP1 hD1
  generalize H1 = H at hP hS ⊢
  replace hP := hP.sub (ws' := [(a, .inr (1, [.ref w, .ref b, .int (nI n), .int x])), (w, .inl (G.2.1, cp, .inl wf9)), (b, .inl (G.2.1, cp, .inl bf)), (a9, .inr (1, [.ref w9, .ref b9, .int (nI n9), .int x9])), (w9, .inl (G.2.1, cp, .inl wf9)), (b9, .inl (G.2.1, cp, .inl bf9))]) [0, 5, 1, 2, 4, 3] rfl
  replace hD := hD.sub (ws' := [(a, .inr (1, [.ref w, .ref b, .int (nI n), .int x])), (w, .inl (G.2.1, cp, .inl wf9)), (b, .inl (G.2.1, cp, .inl bf)), (a9, .inr (1, [.ref w9, .ref b9, .int (nI n9), .int x9])), (w9, .inl (G.2.1, cp, .inl wf9)), (b9, .inl (G.2.1, cp, .inl bf9))]) [0, 5, 1, 2, 4, 3] (by decide) rfl
  have hP : va_P G.1 vwCl [(a, .inr (1, [.ref w, .ref b, .int (nI n), .int x])), (w, .inl (G.2.1, cp, .inl wf9)), (b, .inl (G.2.1, cp, .inl bf)), (a9, .inr (1, [.ref w9, .ref b9, .int (nI n9), .int x9])), (w9, .inl (G.2.1, cp, .inl wf9)), (b9, .inl (G.2.1, cp, .inl bf9))] H := hP
  have hD : va_D A [(a, .inr (1, [.ref w, .ref b, .int (nI n), .int x])), (w, .inl (G.2.1, cp, .inl wf9)), (b, .inl (G.2.1, cp, .inl bf)), (a9, .inr (1, [.ref w9, .ref b9, .int (nI n9), .int x9])), (w9, .inl (G.2.1, cp, .inl wf9)), (b9, .inl (G.2.1, cp, .inl bf9))] := hD
  refine lv_aload_n hx hb dX1_copyFrom_11 rfl (lv_at hl 1 rfl) ?_
  refine va_get (D := G.1) (ci := 1) (v := .ref b9) (C := RX1) (T := TX1) (N := 4) hx hb hts w_0 hown hE.1 hP 3 rfl rfl 1 (by decide) w_3 (fun _ h9 => h9) rfl dX1_copyFrom_12 ?_
  refine lv_aload_n hx hb dX1_copyFrom_15 rfl (lv_at hl 0 rfl) ?_
  refine va_get (D := G.1) (ci := 1) (v := .ref b) (C := RX1) (T := TX1) (N := 4) hx hb hts w_0 hown hE.1 hP 0 rfl rfl 1 (by decide) w_3 (fun _ h9 => h9) rfl dX1_copyFrom_16 ?_
  have hPc := hP.sub (ws' := [(b9, .inl (G.2.1, cp, .inl bf9)), (b, .inl (G.2.1, cp, .inl bf))]) [5, 2] rfl
  have hDc := hD.sub (ws' := [(b9, .inl (G.2.1, cp, .inl bf9)), (b, .inl (G.2.1, cp, .inl bf))]) [5, 2] (by decide) rfl
  refine mcall (st1 := []) (va_runSN (As := [.ref b9, .ref b]) (rest := []) ⟨hx, hb, hml, hown, hts⟩ (c_X5_copyRow l G b9 b cp bf9 bf (by omega)) ⟨va_cnB 2 hts gX1_copyFrom_X5_copyRow_n25 rfl rfl rfl (hE.2 (RX1, 25, yX5_copyRow) (by decide +kernel)) (hts (.initialized RX5) (by decide +kernel)) (by decide +kernel) ⟨Nat.le_of_ble_eq_true rfl, Nat.le_of_ble_eq_true rfl⟩, w_2, trivial⟩ (PC.preS hE ⟨hPc, hDc.weaken (fun _ _ _ _ => trivial)⟩) rfl rfl hl.1 rfl (lv_room (Nat.le_of_ble_eq_true rfl)) dX1_copyFrom_19 ⟨Nat.zero_le _, Nat.zero_le _⟩) hS (fun q _ h => inW_D hDc q h) (fun q h => inW_D hDc q h) rfl (fun H1 locs1 hB hz1 hk1 hS => ?_)
  obtain ⟨hP1, hD1⟩ := hB
  obtain ⟨hP, hD⟩ := jnW (wr := [(a, .inr (1, [.ref w, .ref b, .int (nI n), .int x])), (w, .inl (G.2.1, cp, .inl wf9)), (a9, .inr (1, [.ref w9, .ref b9, .int (nI n9), .int x9])), (w9, .inl (G.2.1, cp, .inl wf9))]) (w1 := [(b9, .inl (G.2.1, cp, .inl bf9)), (b, .inl (G.2.1, cp, .inl bf9))]) hP hD [5, 2] [0, 1, 3, 4] rfl rfl (by decide) (by decide) hk1 hP1 hD1
  generalize H1 = H at hP hS ⊢
  replace hP := hP.sub (ws' := [(a, .inr (1, [.ref w, .ref b, .int (nI n), .int x])), (w, .inl (G.2.1, cp, .inl wf9)), (b, .inl (G.2.1, cp, .inl bf9)), (a9, .inr (1, [.ref w9, .ref b9, .int (nI n9), .int x9])), (w9, .inl (G.2.1, cp, .inl wf9)), (b9, .inl (G.2.1, cp, .inl bf9))]) [0, 1, 5, 2, 3, 4] rfl
  replace hD := hD.sub (ws' := [(a, .inr (1, [.ref w, .ref b, .int (nI n), .int x])), (w, .inl (G.2.1, cp, .inl wf9)), (b, .inl (G.2.1, cp, .inl bf9)), (a9, .inr (1, [.ref w9, .ref b9, .int (nI n9), .int x9])), (w9, .inl (G.2.1, cp, .inl wf9)), (b9, .inl (G.2.1, cp, .inl bf9))]) [0, 1, 5, 2, 3, 4] (by decide) rfl
  have hP : va_P G.1 vwCl [(a, .inr (1, [.ref w, .ref b, .int (nI n), .int x])), (w, .inl (G.2.1, cp, .inl wf9)), (b, .inl (G.2.1, cp, .inl bf9)), (a9, .inr (1, [.ref w9, .ref b9, .int (nI n9), .int x9])), (w9, .inl (G.2.1, cp, .inl wf9)), (b9, .inl (G.2.1, cp, .inl bf9))] H := hP
  have hD : va_D A [(a, .inr (1, [.ref w, .ref b, .int (nI n), .int x])), (w, .inl (G.2.1, cp, .inl wf9)), (b, .inl (G.2.1, cp, .inl bf9)), (a9, .inr (1, [.ref w9, .ref b9, .int (nI n9), .int x9])), (w9, .inl (G.2.1, cp, .inl wf9)), (b9, .inl (G.2.1, cp, .inl bf9))] := hD
  refine lv_aload_n hx hb dX1_copyFrom_22 rfl (lv_at hl 0 rfl) ?_
  refine lv_aload_n hx hb dX1_copyFrom_23 rfl (lv_at hl 1 rfl) ?_
  refine va_get (D := G.1) (ci := 1) (v := .int (nI n9)) (C := RX1) (T := TX1) (N := 4) hx hb hts w_0 hown hE.1 hP 3 rfl rfl 2 (by decide) w_4 (fun _ h9 => h9) rfl dX1_copyFrom_24 ?_
  refine va_put (D := G.1) (ci := 1) (v := .int (nI n9)) (ty := .int) (C := RX1) (T := TX1) (N := 4) hx hb hts w_0 tyX1 tyX1_ok nmX1 hown hE.1 hP hD hS 0 rfl rfl 2 (by decide) w_4 (fun _ h9 => h9) rfl (by decide +kernel) rfl rfl (Nat.le_of_ble_eq_true rfl) dX1_copyFrom_27 (fun H locs hP hD hS => ?_)
  have hP : va_P G.1 vwCl [(a, .inr (1, [.ref w, .ref b, .int (nI n9), .int x])), (w, .inl (G.2.1, cp, .inl wf9)), (b, .inl (G.2.1, cp, .inl bf9)), (a9, .inr (1, [.ref w9, .ref b9, .int (nI n9), .int x9])), (w9, .inl (G.2.1, cp, .inl wf9)), (b9, .inl (G.2.1, cp, .inl bf9))] H := hP
  have hD : va_D A [(a, .inr (1, [.ref w, .ref b, .int (nI n9), .int x])), (w, .inl (G.2.1, cp, .inl wf9)), (b, .inl (G.2.1, cp, .inl bf9)), (a9, .inr (1, [.ref w9, .ref b9, .int (nI n9), .int x9])), (w9, .inl (G.2.1, cp, .inl wf9)), (b9, .inl (G.2.1, cp, .inl bf9))] := hD
  refine lv_aload_n hx hb dX1_copyFrom_30 rfl (lv_at hl 0 rfl) ?_
  refine lv_aload_n hx hb dX1_copyFrom_31 rfl (lv_at hl 1 rfl) ?_
  refine va_get (D := G.1) (ci := 1) (v := .int x9) (C := RX1) (T := TX1) (N := 4) hx hb hts w_0 hown hE.1 hP 3 rfl rfl 3 (by decide) w_5 (fun _ h9 => h9) rfl dX1_copyFrom_32 ?_
  refine va_put (D := G.1) (ci := 1) (v := .int x9) (ty := .int) (C := RX1) (T := TX1) (N := 4) hx hb hts w_0 tyX1 tyX1_ok nmX1 hown hE.1 hP hD hS 0 rfl rfl 3 (by decide) w_5 (fun _ h9 => h9) rfl (by decide +kernel) rfl rfl (Nat.le_of_ble_eq_true rfl) dX1_copyFrom_35 (fun H locs hP hD hS => ?_)
  have hP : va_P G.1 vwCl [(a, .inr (1, [.ref w, .ref b, .int (nI n9), .int x9])), (w, .inl (G.2.1, cp, .inl wf9)), (b, .inl (G.2.1, cp, .inl bf9)), (a9, .inr (1, [.ref w9, .ref b9, .int (nI n9), .int x9])), (w9, .inl (G.2.1, cp, .inl wf9)), (b9, .inl (G.2.1, cp, .inl bf9))] H := hP
  have hD : va_D A [(a, .inr (1, [.ref w, .ref b, .int (nI n9), .int x9])), (w, .inl (G.2.1, cp, .inl wf9)), (b, .inl (G.2.1, cp, .inl bf9)), (a9, .inr (1, [.ref w9, .ref b9, .int (nI n9), .int x9])), (w9, .inl (G.2.1, cp, .inl wf9)), (b9, .inl (G.2.1, cp, .inl bf9))] := hD
  exact W.vret hx hb hr (fun t ht hW => ⟨rfl, by rw [ht]; exact ⟨hP, hD⟩, hS.F ht⟩) hS.2.2 dX1_copyFrom_38

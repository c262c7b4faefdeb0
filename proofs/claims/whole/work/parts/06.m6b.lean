set_option maxHeartbeats 4000000 in
set_option maxRecDepth 100000 in
theorem c_X6_passes (l : Launch) (G : eG) (a : Nat) (f : Nat → Int32) (h : Int32) : Met l yX6_passes wsX6_passes ({ frames := 1, cells := 0, slots := 0, locals := 21 }) (PC [.ref a, .int h] G (fun H => va_P G.1 vwCl [(a, .inl (G.2.1, 97, .inl f))] H ∧ va_D (fun _ => True) [(a, .inl (G.2.1, 97, .inl f))])) (MV (none) (fun H => va_P G.1 vwCl [(a, .inl (G.2.1, 97, .inl (fPas f h)))] H ∧ va_D (inW [(a, .inl (G.2.1, 97, .inl f))]) [(a, .inl (G.2.1, 97, .inl (fPas f h)))]) (inW [(a, .inl (G.2.1, 97, .inl f))])) 0 0 (inW [(a, .inl (G.2.1, 97, .inl f))]) := by
  refine ofB (cc := cX6_passes) (maxL := 2) (ret := none) (by decide) rfl (Nat.le_of_ble_eq_true rfl) ?_
  intro p e s m below meth c hx hb hr hlocks hml hown hin hts hE hI ls hl
  replace hown : s.vm.findClass RX6 = some m.cls := hown
  have hl : lv_has ls 2 [(0, .ref a), (1, .int h)] := hl
  obtain ⟨hP, hD0⟩ := hI
  have hD : va_D (inW [(a, .inl (G.2.1, 97, .inl f))]) [(a, .inl (G.2.1, 97, .inl f))] := D_self hD0
  obtain ⟨A, hAe⟩ : ∃ A, A = inW [(a, .inl (G.2.1, 97, .inl f))] := ⟨_, rfl⟩
  rw [← hAe] at hD ⊢
  have hS : va_S A s.heap s.heap [] := va_S.rf
  obtain ⟨H, hHe⟩ : ∃ H, H = s.heap := ⟨_, rfl⟩
  obtain ⟨locs, hle⟩ : ∃ q : List Loc, q = [] := ⟨_, rfl⟩
  rw [← hle] at hS ⊢
  have hP : va_P G.1 vwCl [(a, .inl (G.2.1, 97, .inl f))] H := by rw [hHe]; exact hP
  replace hS : va_S A s.heap H locs := by rw [hHe]; exact hS
  refine tH hHe ?_
  skip
  refine lv_aload_n hx hb dX6_passes_0 rfl (lv_at hl 0 rfl) ?_
  refine lv_bipush (v := nI 50) hx hb dX6_passes_1 (by decide +kernel) ?_
  refine lv_dup2_11 hx hb dX6_passes_3 rfl rfl ?_
  refine ialdN (k := 50) hx hb hE.1 hP 0 0 rfl rfl (by omega) (by decide) dX6_passes_4 ?_
  refine lv_iload_n hx hb dX6_passes_5 rfl (lv_at hl 1 rfl) ?_
  refine lv_iadd hx hb dX6_passes_6 ?_
  refine iastN (k := 50) hx hb hE.1 hP hD hS 0 0 rfl rfl (by omega) (by decide) dX6_passes_7 (fun H locs hP hD hS => ?_)
  have hP : va_P G.1 vwCl [(a, .inl (G.2.1, 97, .inl (upd f 50 ((f 50) + h))))] H := hP
  have hD : va_D A [(a, .inl (G.2.1, 97, .inl (upd f 50 ((f 50) + h))))] := hD
  refine lv_aload_n hx hb dX6_passes_8 rfl (lv_at hl 0 rfl) ?_
  refine lv_bipush (v := nI 56) hx hb dX6_passes_9 (by decide +kernel) ?_
  refine lv_dup2_11 hx hb dX6_passes_11 rfl rfl ?_
  refine ialdN (k := 56) hx hb hE.1 hP 0 0 rfl rfl (by omega) (by decide) dX6_passes_12 ?_
  refine tI (y := f 56) ((pk_un (by omega))) ?_
  refine lv_iload_n hx hb dX6_passes_13 rfl (lv_at hl 1 rfl) ?_
  refine lv_aload_n hx hb dX6_passes_14 rfl (lv_at hl 0 rfl) ?_
  refine lv_iconst (v := nI 0) hx hb dX6_passes_15 (by decide +kernel) ?_
  refine pcall (st1 := [.int ((upd f 50 ((f 50) + h)) (57 + (11 * 0))), .int h, .int (f 56), .int (nI 56), .ref a]) (va_runS (As := [.ref a, .int (nI 0)]) (rest := [.int h, .int (f 56), .int (nI 56), .ref a]) ⟨hx, hb, hml, hown, hts⟩ (c_X6_waitingAt l G a (upd f 50 ((f 50) + h)) 0 (by omega)) (va_cwS 2 hts gX6_passes_X6_waitingAt rfl rfl rfl (by decide +kernel) ⟨Nat.le_of_ble_eq_true rfl, Nat.le_of_ble_eq_true rfl⟩) (PC.preS hE (hP.sub [0] rfl)) rfl rfl hl.1 rfl (lv_room (Nat.le_of_ble_eq_true rfl)) dX6_passes_16 ⟨Nat.zero_le _, Nat.zero_le _⟩) rfl ?_
  refine lv_aload_n hx hb dX6_passes_19 rfl (lv_at hl 0 rfl) ?_
  refine lv_iconst (v := nI 1) hx hb dX6_passes_20 (by decide +kernel) ?_
  refine pcall (st1 := [.int ((upd f 50 ((f 50) + h)) (57 + (11 * 1))), .int ((upd f 50 ((f 50) + h)) (57 + (11 * 0))), .int h, .int (f 56), .int (nI 56), .ref a]) (va_runS (As := [.ref a, .int (nI 1)]) (rest := [.int ((upd f 50 ((f 50) + h)) (57 + (11 * 0))), .int h, .int (f 56), .int (nI 56), .ref a]) ⟨hx, hb, hml, hown, hts⟩ (c_X6_waitingAt l G a (upd f 50 ((f 50) + h)) 1 (by omega)) (va_cwS 2 hts gX6_passes_X6_waitingAt rfl rfl rfl (by decide +kernel) ⟨Nat.le_of_ble_eq_true rfl, Nat.le_of_ble_eq_true rfl⟩) (PC.preS hE (hP.sub [0] rfl)) rfl rfl hl.1 rfl (lv_room (Nat.le_of_ble_eq_true rfl)) dX6_passes_21 ⟨Nat.zero_le _, Nat.zero_le _⟩) rfl ?_
  refine lv_iadd hx hb dX6_passes_24 ?_
  refine lv_imul hx hb dX6_passes_25 ?_
  refine lv_iadd hx hb dX6_passes_26 ?_
  refine iastN (k := 56) hx hb hE.1 hP hD hS 0 0 rfl rfl (by omega) (by decide) dX6_passes_27 (fun H locs hP hD hS => ?_)
  have hP : va_P G.1 vwCl [(a, .inl (G.2.1, 97, .inl (upd (upd f 50 ((f 50) + h)) 56 ((f 56) + (h * (((upd f 50 ((f 50) + h)) (57 + (11 * 0))) + ((upd f 50 ((f 50) + h)) (57 + (11 * 1)))))))))] H := hP
  have hD : va_D A [(a, .inl (G.2.1, 97, .inl (upd (upd f 50 ((f 50) + h)) 56 ((f 56) + (h * (((upd f 50 ((f 50) + h)) (57 + (11 * 0))) + ((upd f 50 ((f 50) + h)) (57 + (11 * 1)))))))))] := hD
  exact W.vret hx hb hr (fun t ht hW => ⟨rfl, by rw [ht]; exact ⟨hP, hD⟩, hS.F ht⟩) hS.2.2 dX6_passes_28
set_option maxHeartbeats 4000000 in
set_option maxRecDepth 100000 in
theorem c_X6_lays (l : Launch) (G : eG) (a b n1 n2 fa ta : Nat) (f g : Nat → Int32) (h1 : fa + 97 ≤ n1) (h2 : ta + 97 ≤ n2) (hn1 : n1 < 100000) (hn2 : n2 < 100000) : Met l yX6_lays wsX6_lays ({ frames := 0, cells := 0, slots := 0, locals := 0 }) (PC [.ref a, .int (nI fa), .ref b, .int (nI ta)] G (fun H => va_P G.1 vwCl [(a, .inl (G.2.1, n1, .inl f)), (b, .inl (G.2.1, n2, .inl g))] H ∧ va_D (fun _ => True) [(a, .inl (G.2.1, n1, .inl f)), (b, .inl (G.2.1, n2, .inl g))])) (MV (none) (fun H => va_P G.1 vwCl [(a, .inl (G.2.1, n1, .inl f)), (b, .inl (G.2.1, n2, .inl (va_cpy f g fa ta 97)))] H ∧ va_D (inW [(a, .inl (G.2.1, n1, .inl f)), (b, .inl (G.2.1, n2, .inl g))]) [(a, .inl (G.2.1, n1, .inl f)), (b, .inl (G.2.1, n2, .inl (va_cpy f g fa ta 97)))]) (inW [(a, .inl (G.2.1, n1, .inl f)), (b, .inl (G.2.1, n2, .inl g))])) 0 0 (inW [(a, .inl (G.2.1, n1, .inl f)), (b, .inl (G.2.1, n2, .inl g))]) := by
  refine ofB (cc := cX6_lays) (maxL := 5) (ret := none) (by decide) rfl (Nat.le_of_ble_eq_true rfl) ?_
  intro p e s m below meth c hx hb hr hlocks hml hown hin hts hE hI ls hl
  replace hown : s.vm.findClass RX6 = some m.cls := hown
  have hl : lv_has ls 5 [(0, .ref a), (1, .int (nI fa)), (2, .ref b), (3, .int (nI ta))] := hl
  obtain ⟨hP, hD0⟩ := hI
  have hD : va_D (inW [(a, .inl (G.2.1, n1, .inl f)), (b, .inl (G.2.1, n2, .inl g))]) [(a, .inl (G.2.1, n1, .inl f)), (b, .inl (G.2.1, n2, .inl g))] := D_self hD0
  obtain ⟨A, hAe⟩ : ∃ A, A = inW [(a, .inl (G.2.1, n1, .inl f)), (b, .inl (G.2.1, n2, .inl g))] := ⟨_, rfl⟩
  rw [← hAe] at hD ⊢
  have hS : va_S A s.heap s.heap [] := va_S.rf
  obtain ⟨H, hHe⟩ : ∃ H, H = s.heap := ⟨_, rfl⟩
  obtain ⟨locs, hle⟩ : ∃ q : List Loc, q = [] := ⟨_, rfl⟩
  rw [← hle] at hS ⊢
  have hP : va_P G.1 vwCl [(a, .inl (G.2.1, n1, .inl f)), (b, .inl (G.2.1, n2, .inl g))] H := by rw [hHe]; exact hP
  replace hS : va_S A s.heap H locs := by rw [hHe]; exact hS
  refine tH hHe ?_
  skip
  refine lv_iconst (v := nI 0) hx hb dX6_lays_0 (by decide +kernel) ?_
  refine lv_istore (lv' := [(4, .int (nI 0)), (0, .ref a), (1, .int (nI fa)), (2, .ref b), (3, .int (nI ta))]) hx hb dX6_lays_1 hl (by decide) rfl (fun ls hl => ?_)
  refine loopH (σ := Nat) (n := 5) (pc1 := 3) (fun i => 97 - i) (fun i => i ≤ 97) (fun i => fun (H : Heap) (locs : List Loc) => va_P G.1 vwCl [(a, .inl (G.2.1, n1, .inl f)), (b, .inl (G.2.1, n2, .inl (va_cpy f g fa ta i)))] H ∧ va_D A [(a, .inl (G.2.1, n1, .inl f)), (b, .inl (G.2.1, n2, .inl (va_cpy f g fa ta i)))] ∧ va_S A s.heap H locs) (fun i => [(4, .int (nI i)), (0, .ref a), (1, .int (nI fa)), (2, .ref b), (3, .int (nI ta))]) (fun i => []) ?_ (0) H _ _ (Nat.zero_le _) ⟨by rw [cpy_0]; exact hP, by rw [cpy_0]; exact hD, hS⟩ (lv_sub hl [0, 1, 2, 3, 4] rfl)
  rintro i H locs ls hI ⟨hP, hD, hS⟩ hl ih3
  have hl : lv_has ls 5 [(4, .int (nI i)), (0, .ref a), (1, .int (nI fa)), (2, .ref b), (3, .int (nI ta))] := hl
  replace hI : i ≤ 97 := hI
  have hP : va_P G.1 vwCl [(a, .inl (G.2.1, n1, .inl f)), (b, .inl (G.2.1, n2, .inl (va_cpy f g fa ta i)))] H := hP
  have hD : va_D A [(a, .inl (G.2.1, n1, .inl f)), (b, .inl (G.2.1, n2, .inl (va_cpy f g fa ta i)))] := hD
  refine tS (st' := []) rfl ?_
  refine lv_iload hx hb dX6_lays_3 (lv_at hl 0 rfl) ?_
  refine lv_bipush (v := nI 97) hx hb dX6_lays_5 (by decide +kernel) ?_
  refine icmp_geN (tgt := 28) hx hb (by omega) (by omega) dX6_lays_7 (by decide) (fun c7 => ?_) (fun c7 => ?_)
  · skip
    exact W.vret hx hb hr (fun t ht hW => ⟨rfl, by rw [ht]; exact (by rw [show i = 97 by omega] at hP hD; exact ⟨hP, hD⟩), hS.F ht⟩) hS.2.2 dX6_lays_28
  · skip
    refine lv_aload_n hx hb dX6_lays_10 rfl (lv_at hl 3 rfl) ?_
    refine lv_iload_n hx hb dX6_lays_11 rfl (lv_at hl 4 rfl) ?_
    refine lv_iload hx hb dX6_lays_12 (lv_at hl 0 rfl) ?_
    refine iaddN hx hb dX6_lays_14 ?_
    refine lv_aload_n hx hb dX6_lays_15 rfl (lv_at hl 1 rfl) ?_
    refine lv_iload_n hx hb dX6_lays_16 rfl (lv_at hl 2 rfl) ?_
    refine lv_iload hx hb dX6_lays_17 (lv_at hl 0 rfl) ?_
    refine iaddN hx hb dX6_lays_19 ?_
    refine ialdN (k := (fa + i)) hx hb hE.1 hP 0 0 rfl rfl (by omega) (by omega) dX6_lays_20 ?_
    refine iastN (k := (ta + i)) hx hb hE.1 hP hD hS 1 0 rfl rfl (by omega) (by omega) dX6_lays_21 (fun H locs hP hD hS => ?_)
    have hP : va_P G.1 vwCl [(a, .inl (G.2.1, n1, .inl f)), (b, .inl (G.2.1, n2, .inl (upd (va_cpy f g fa ta i) (ta + i) (f (fa + i)))))] H := hP
    have hD : va_D A [(a, .inl (G.2.1, n1, .inl f)), (b, .inl (G.2.1, n2, .inl (upd (va_cpy f g fa ta i) (ta + i) (f (fa + i)))))] := hD
    refine lv_iinc (v := nI (i + 1)) (lv' := [(4, .int (nI (i + 1))), (0, .ref a), (1, .int (nI fa)), (2, .ref b), (3, .int (nI ta))]) hx hb dX6_lays_22 hl (k := 0) rfl (nI_inc1 _) (by decide) rfl (fun ls hl => ?_)
    refine lv_goto (tgt := 3) hx hb dX6_lays_25 (by decide) ?_
    exact ih3 (i + 1) _ _ _ (by omega) ⟨by rw [← cpy_s]; exact hP, by rw [← cpy_s]; exact hD, hS⟩ (lv_sub hl [0, 1, 2, 3, 4] rfl) (by (try dsimp only); omega)
set_option maxHeartbeats 4000000 in
set_option maxRecDepth 100000 in
theorem c_X6_refuses (l : Launch) (G : eG) (ob a1 a2 a3 a4 a5 : Nat) (f th pa sn tx : Nat → Int32) (n len spot : Nat) (kp thr bad lt one two wh : Int32) (hash : Int64) (k : Int32) : Met l yX6_refuses wsX6_refuses ({ frames := 0, cells := 0, slots := 0, locals := 0 }) (PC [.ref ob, .int k] G (fun H => va_P G.1 vwCl [(ob, .inr (6, [.ref a1, .ref a2, .ref a3, .int (nI n), .ref a4, .int kp, .ref a5, .int (nI len), .int thr, .int (nI spot), .int bad, .int lt, .int one, .int two, .int wh, .long hash])), (a1, .inl (G.2.1, 97, .inl f)), (a2, .inl (G.2.1, 97, .inl th)), (a3, .inl (G.2.1, 582, .inl pa)), (a4, .inl (G.2.1, 97, .inl sn)), (a5, .inl (G.2.1, 60, .inl tx))] H ∧ va_D (fun _ => True) [(ob, .inr (6, [.ref a1, .ref a2, .ref a3, .int (nI n), .ref a4, .int kp, .ref a5, .int (nI len), .int thr, .int (nI spot), .int bad, .int lt, .int one, .int two, .int wh, .long hash])), (a1, .inl (G.2.1, 97, .inl f)), (a2, .inl (G.2.1, 97, .inl th)), (a3, .inl (G.2.1, 582, .inl pa)), (a4, .inl (G.2.1, 97, .inl sn)), (a5, .inl (G.2.1, 60, .inl tx))])) (MV (some (.int (nI 0))) (fun H => va_P G.1 vwCl [(ob, .inr (6, [.ref a1, .ref a2, .ref a3, .int (nI n), .ref a4, .int kp, .ref a5, .int (nI len), .int k, .int (nI spot), .int bad, .int lt, .int one, .int two, .int wh, .long hash])), (a1, .inl (G.2.1, 97, .inl f)), (a2, .inl (G.2.1, 97, .inl th)), (a3, .inl (G.2.1, 582, .inl pa)), (a4, .inl (G.2.1, 97, .inl sn)), (a5, .inl (G.2.1, 60, .inl tx))] H ∧ va_D (inW [(ob, .inr (6, [.ref a1, .ref a2, .ref a3, .int (nI n), .ref a4, .int kp, .ref a5, .int (nI len), .int thr, .int (nI spot), .int bad, .int lt, .int one, .int two, .int wh, .long hash])), (a1, .inl (G.2.1, 97, .inl f)), (a2, .inl (G.2.1, 97, .inl th)), (a3, .inl (G.2.1, 582, .inl pa)), (a4, .inl (G.2.1, 97, .inl sn)), (a5, .inl (G.2.1, 60, .inl tx))]) [(ob, .inr (6, [.ref a1, .ref a2, .ref a3, .int (nI n), .ref a4, .int kp, .ref a5, .int (nI len), .int k, .int (nI spot), .int bad, .int lt, .int one, .int two, .int wh, .long hash])), (a1, .inl (G.2.1, 97, .inl f)), (a2, .inl (G.2.1, 97, .inl th)), (a3, .inl (G.2.1, 582, .inl pa)), (a4, .inl (G.2.1, 97, .inl sn)), (a5, .inl (G.2.1, 60, .inl tx))]) (inW [(ob, .inr (6, [.ref a1, .ref a2, .ref a3, .int (nI n), .ref a4, .int kp, .ref a5, .int (nI len), .int thr, .int (nI spot), .int bad, .int lt, .int one, .int two, .int wh, .long hash])), (a1, .inl (G.2.1, 97, .inl f)), (a2, .inl (G.2.1, 97, .inl th)), (a3, .inl (G.2.1, 582, .inl pa)), (a4, .inl (G.2.1, 97, .inl sn)), (a5, .inl (G.2.1, 60, .inl tx))])) 0 0 (inW [(ob, .inr (6, [.ref a1, .ref a2, .ref a3, .int (nI n), .ref a4, .int kp, .ref a5, .int (nI len), .int thr, .int (nI spot), .int bad, .int lt, .int one, .int two, .int wh, .long hash])), (a1, .inl (G.2.1, 97, .inl f)), (a2, .inl (G.2.1, 97, .inl th)), (a3, .inl (G.2.1, 582, .inl pa)), (a4, .inl (G.2.1, 97, .inl sn)), (a5, .inl (G.2.1, 60, .inl tx))]) := by
  refine ofB (cc := cX6_refuses) (maxL := 2) (ret := (some .int)) (by decide) rfl (Nat.le_of_ble_eq_true rfl) ?_
  intro p e s m below meth c hx hb hr hlocks hml hown hin hts hE hI ls hl
  replace hown : s.vm.findClass RX6 = some m.cls := hown
  have hl : lv_has ls 2 [(0, .ref ob), (1, .int k)] := hl
  obtain ⟨hP, hD0⟩ := hI
  have hD : va_D (inW [(ob, .inr (6, [.ref a1, .ref a2, .ref a3, .int (nI n), .ref a4, .int kp, .ref a5, .int (nI len), .int thr, .int (nI spot), .int bad, .int lt, .int one, .int two, .int wh, .long hash])), (a1, .inl (G.2.1, 97, .inl f)), (a2, .inl (G.2.1, 97, .inl th)), (a3, .inl (G.2.1, 582, .inl pa)), (a4, .inl (G.2.1, 97, .inl sn)), (a5, .inl (G.2.1, 60, .inl tx))]) [(ob, .inr (6, [.ref a1, .ref a2, .ref a3, .int (nI n), .ref a4, .int kp, .ref a5, .int (nI len), .int thr, .int (nI spot), .int bad, .int lt, .int one, .int two, .int wh, .long hash])), (a1, .inl (G.2.1, 97, .inl f)), (a2, .inl (G.2.1, 97, .inl th)), (a3, .inl (G.2.1, 582, .inl pa)), (a4, .inl (G.2.1, 97, .inl sn)), (a5, .inl (G.2.1, 60, .inl tx))] := D_self hD0
  obtain ⟨A, hAe⟩ : ∃ A, A = inW [(ob, .inr (6, [.ref a1, .ref a2, .ref a3, .int (nI n), .ref a4, .int kp, .ref a5, .int (nI len), .int thr, .int (nI spot), .int bad, .int lt, .int one, .int two, .int wh, .long hash])), (a1, .inl (G.2.1, 97, .inl f)), (a2, .inl (G.2.1, 97, .inl th)), (a3, .inl (G.2.1, 582, .inl pa)), (a4, .inl (G.2.1, 97, .inl sn)), (a5, .inl (G.2.1, 60, .inl tx))] := ⟨_, rfl⟩
  rw [← hAe] at hD ⊢
  have hS : va_S A s.heap s.heap [] := va_S.rf
  obtain ⟨H, hHe⟩ : ∃ H, H = s.heap := ⟨_, rfl⟩
  obtain ⟨locs, hle⟩ : ∃ q : List Loc, q = [] := ⟨_, rfl⟩
  rw [← hle] at hS ⊢
  have hP : va_P G.1 vwCl [(ob, .inr (6, [.ref a1, .ref a2, .ref a3, .int (nI n), .ref a4, .int kp, .ref a5, .int (nI len), .int thr, .int (nI spot), .int bad, .int lt, .int one, .int two, .int wh, .long hash])), (a1, .inl (G.2.1, 97, .inl f)), (a2, .inl (G.2.1, 97, .inl th)), (a3, .inl (G.2.1, 582, .inl pa)), (a4, .inl (G.2.1, 97, .inl sn)), (a5, .inl (G.2.1, 60, .inl tx))] H := by rw [hHe]; exact hP
  replace hS : va_S A s.heap H locs := by rw [hHe]; exact hS
  refine tH hHe ?_
  have w_0 : ∀ w ∈ u_ws RX6 TX6 16, w ∈ wsX6_refuses := by decide +kernel
  have w_1 := hts (.fieldLink RX6 25 "CableFerryModel" "thrown" "I") (by decide +kernel)
  skip
  refine lv_aload_n hx hb dX6_refuses_0 rfl (lv_at hl 0 rfl) ?_
  refine lv_iload_n hx hb dX6_refuses_1 rfl (lv_at hl 1 rfl) ?_
  refine va_put (D := G.1) (ci := 6) (v := .int k) (ty := .int) (C := RX6) (T := TX6) (N := 16) hx hb hts w_0 tyX6 tyX6_ok nmX6 hown hE.1 hP hD hS 0 rfl rfl 8 (by decide) w_1 (fun _ h9 => h9) rfl (by decide +kernel) rfl rfl (Nat.le_of_ble_eq_true rfl) dX6_refuses_2 (fun H locs hP hD hS => ?_)
  have hP : va_P G.1 vwCl [(ob, .inr (6, [.ref a1, .ref a2, .ref a3, .int (nI n), .ref a4, .int kp, .ref a5, .int (nI len), .int k, .int (nI spot), .int bad, .int lt, .int one, .int two, .int wh, .long hash])), (a1, .inl (G.2.1, 97, .inl f)), (a2, .inl (G.2.1, 97, .inl th)), (a3, .inl (G.2.1, 582, .inl pa)), (a4, .inl (G.2.1, 97, .inl sn)), (a5, .inl (G.2.1, 60, .inl tx))] H := hP
  have hD : va_D A [(ob, .inr (6, [.ref a1, .ref a2, .ref a3, .int (nI n), .ref a4, .int kp, .ref a5, .int (nI len), .int k, .int (nI spot), .int bad, .int lt, .int one, .int two, .int wh, .long hash])), (a1, .inl (G.2.1, 97, .inl f)), (a2, .inl (G.2.1, 97, .inl th)), (a3, .inl (G.2.1, 582, .inl pa)), (a4, .inl (G.2.1, 97, .inl sn)), (a5, .inl (G.2.1, 60, .inl tx))] := hD
  refine lv_iconst (v := nI 0) hx hb dX6_refuses_5 (by decide +kernel) ?_
  exact W.iret hx hb hr (fun t ht hW => ⟨rfl, by rw [ht]; exact ⟨hP, hD⟩, hS.F ht⟩) hS.2.2 dX6_refuses_6
set_option maxHeartbeats 4000000 in
set_option maxRecDepth 100000 in
theorem c_X6_saves (l : Launch) (G : eG) (ob a1 a2 a3 a4 a5 : Nat) (f th pa sn tx : Nat → Int32) (n len spot : Nat) (kp thr bad lt one two wh : Int32) (hash : Int64) (hn6 : n ≤ 6) : Met l yX6_saves wsX6_saves ({ frames := 1, cells := 0, slots := 0, locals := 24 }) (PC [.ref ob] G (fun H => va_P G.1 vwCl [(ob, .inr (6, [.ref a1, .ref a2, .ref a3, .int (nI n), .ref a4, .int kp, .ref a5, .int (nI len), .int thr, .int (nI spot), .int bad, .int lt, .int one, .int two, .int wh, .long hash])), (a1, .inl (G.2.1, 97, .inl f)), (a2, .inl (G.2.1, 97, .inl th)), (a3, .inl (G.2.1, 582, .inl pa)), (a4, .inl (G.2.1, 97, .inl sn)), (a5, .inl (G.2.1, 60, .inl tx))] H ∧ va_D (fun _ => True) [(ob, .inr (6, [.ref a1, .ref a2, .ref a3, .int (nI n), .ref a4, .int kp, .ref a5, .int (nI len), .int thr, .int (nI spot), .int bad, .int lt, .int one, .int two, .int wh, .long hash])), (a1, .inl (G.2.1, 97, .inl f)), (a2, .inl (G.2.1, 97, .inl th)), (a3, .inl (G.2.1, 582, .inl pa)), (a4, .inl (G.2.1, 97, .inl sn)), (a5, .inl (G.2.1, 60, .inl tx))])) (MV (none) (fun H => va_P G.1 vwCl [(ob, .inr (6, [.ref a1, .ref a2, .ref a3, .int (nI (svM n)), .ref a4, .int kp, .ref a5, .int (nI len), .int thr, .int (nI spot), .int bad, .int lt, .int one, .int two, .int wh, .long hash])), (a1, .inl (G.2.1, 97, .inl f)), (a2, .inl (G.2.1, 97, .inl th)), (a3, .inl (G.2.1, 582, .inl (svQ f n pa))), (a4, .inl (G.2.1, 97, .inl sn)), (a5, .inl (G.2.1, 60, .inl tx))] H ∧ va_D (inW [(ob, .inr (6, [.ref a1, .ref a2, .ref a3, .int (nI n), .ref a4, .int kp, .ref a5, .int (nI len), .int thr, .int (nI spot), .int bad, .int lt, .int one, .int two, .int wh, .long hash])), (a1, .inl (G.2.1, 97, .inl f)), (a2, .inl (G.2.1, 97, .inl th)), (a3, .inl (G.2.1, 582, .inl pa)), (a4, .inl (G.2.1, 97, .inl sn)), (a5, .inl (G.2.1, 60, .inl tx))]) [(ob, .inr (6, [.ref a1, .ref a2, .ref a3, .int (nI (svM n)), .ref a4, .int kp, .ref a5, .int (nI len), .int thr, .int (nI spot), .int bad, .int lt, .int one, .int two, .int wh, .long hash])), (a1, .inl (G.2.1, 97, .inl f)), (a2, .inl (G.2.1, 97, .inl th)), (a3, .inl (G.2.1, 582, .inl (svQ f n pa))), (a4, .inl (G.2.1, 97, .inl sn)), (a5, .inl (G.2.1, 60, .inl tx))]) (inW [(ob, .inr (6, [.ref a1, .ref a2, .ref a3, .int (nI n), .ref a4, .int kp, .ref a5, .int (nI len), .int thr, .int (nI spot), .int bad, .int lt, .int one, .int two, .int wh, .long hash])), (a1, .inl (G.2.1, 97, .inl f)), (a2, .inl (G.2.1, 97, .inl th)), (a3, .inl (G.2.1, 582, .inl pa)), (a4, .inl (G.2.1, 97, .inl sn)), (a5, .inl (G.2.1, 60, .inl tx))])) 0 0 (inW [(ob, .inr (6, [.ref a1, .ref a2, .ref a3, .int (nI n), .ref a4, .int kp, .ref a5, .int (nI len), .int thr, .int (nI spot), .int bad, .int lt, .int one, .int two, .int wh, .long hash])), (a1, .inl (G.2.1, 97, .inl f)), (a2, .inl (G.2.1, 97, .inl th)), (a3, .inl (G.2.1, 582, .inl pa)), (a4, .inl (G.2.1, 97, .inl sn)), (a5, .inl (G.2.1, 60, .inl tx))]) := by
  refine ofB (cc := cX6_saves) (maxL := 2) (ret := none) (by decide) rfl (Nat.le_of_ble_eq_true rfl) ?_
  intro p e s m below meth c hx hb hr hlocks hml hown hin hts hE hI ls hl
  replace hown : s.vm.findClass RX6 = some m.cls := hown
  have hl : lv_has ls 2 [(0, .ref ob)] := hl
  obtain ⟨hP, hD0⟩ := hI
  have hD : va_D (inW [(ob, .inr (6, [.ref a1, .ref a2, .ref a3, .int (nI n), .ref a4, .int kp, .ref a5, .int (nI len), .int thr, .int (nI spot), .int bad, .int lt, .int one, .int two, .int wh, .long hash])), (a1, .inl (G.2.1, 97, .inl f)), (a2, .inl (G.2.1, 97, .inl th)), (a3, .inl (G.2.1, 582, .inl pa)), (a4, .inl (G.2.1, 97, .inl sn)), (a5, .inl (G.2.1, 60, .inl tx))]) [(ob, .inr (6, [.ref a1, .ref a2, .ref a3, .int (nI n), .ref a4, .int kp, .ref a5, .int (nI len), .int thr, .int (nI spot), .int bad, .int lt, .int one, .int two, .int wh, .long hash])), (a1, .inl (G.2.1, 97, .inl f)), (a2, .inl (G.2.1, 97, .inl th)), (a3, .inl (G.2.1, 582, .inl pa)), (a4, .inl (G.2.1, 97, .inl sn)), (a5, .inl (G.2.1, 60, .inl tx))] := D_self hD0
  obtain ⟨A, hAe⟩ : ∃ A, A = inW [(ob, .inr (6, [.ref a1, .ref a2, .ref a3, .int (nI n), .ref a4, .int kp, .ref a5, .int (nI len), .int thr, .int (nI spot), .int bad, .int lt, .int one, .int two, .int wh, .long hash])), (a1, .inl (G.2.1, 97, .inl f)), (a2, .inl (G.2.1, 97, .inl th)), (a3, .inl (G.2.1, 582, .inl pa)), (a4, .inl (G.2.1, 97, .inl sn)), (a5, .inl (G.2.1, 60, .inl tx))] := ⟨_, rfl⟩
  rw [← hAe] at hD ⊢
  have hS : va_S A s.heap s.heap [] := va_S.rf
  obtain ⟨H, hHe⟩ : ∃ H, H = s.heap := ⟨_, rfl⟩
  obtain ⟨locs, hle⟩ : ∃ q : List Loc, q = [] := ⟨_, rfl⟩
  rw [← hle] at hS ⊢
  have hP : va_P G.1 vwCl [(ob, .inr (6, [.ref a1, .ref a2, .ref a3, .int (nI n), .ref a4, .int kp, .ref a5, .int (nI len), .int thr, .int (nI spot), .int bad, .int lt, .int one, .int two, .int wh, .long hash])), (a1, .inl (G.2.1, 97, .inl f)), (a2, .inl (G.2.1, 97, .inl th)), (a3, .inl (G.2.1, 582, .inl pa)), (a4, .inl (G.2.1, 97, .inl sn)), (a5, .inl (G.2.1, 60, .inl tx))] H := by rw [hHe]; exact hP
  replace hS : va_S A s.heap H locs := by rw [hHe]; exact hS
  refine tH hHe ?_
  have w_0 : ∀ w ∈ u_ws RX6 TX6 16, w ∈ wsX6_saves := by decide +kernel
  have w_1 := hts (.fieldLink RX6 29 "CableFerryModel" "states" "I") (by decide +kernel)
  have w_2 := hts (.fieldLink RX6 7 "CableFerryModel" "now" "[I") (by decide +kernel)
  have w_3 := hts (.fieldLink RX6 16 "CableFerryModel" "past" "[I") (by decide +kernel)
  have hsv := svN_le hn6
  refine lv_aload_n hx hb dX6_saves_0 rfl (lv_at hl 0 rfl) ?_
  refine va_get (D := G.1) (ci := 6) (v := .int (nI n)) (C := RX6) (T := TX6) (N := 16) hx hb hts w_0 hown hE.1 hP 0 rfl rfl 3 (by decide) w_1 (fun _ h9 => h9) rfl dX6_saves_1 ?_
  refine lv_bipush (v := nI 6) hx hb dX6_saves_4 (by decide +kernel) ?_
  refine cutH (σ := Unit) (n := 2) (pc1 := 49) (fun _ => True) (fun _ => fun (H : Heap) (locs : List Loc) => va_P G.1 vwCl [(ob, .inr (6, [.ref a1, .ref a2, .ref a3, .int (nI (svN n)), .ref a4, .int kp, .ref a5, .int (nI len), .int thr, .int (nI spot), .int bad, .int lt, .int one, .int two, .int wh, .long hash])), (a1, .inl (G.2.1, 97, .inl f)), (a2, .inl (G.2.1, 97, .inl th)), (a3, .inl (G.2.1, 582, .inl (svP n pa))), (a4, .inl (G.2.1, 97, .inl sn)), (a5, .inl (G.2.1, 60, .inl tx))] H ∧ va_D A [(ob, .inr (6, [.ref a1, .ref a2, .ref a3, .int (nI (svN n)), .ref a4, .int kp, .ref a5, .int (nI len), .int thr, .int (nI spot), .int bad, .int lt, .int one, .int two, .int wh, .long hash])), (a1, .inl (G.2.1, 97, .inl f)), (a2, .inl (G.2.1, 97, .inl th)), (a3, .inl (G.2.1, 582, .inl (svP n pa))), (a4, .inl (G.2.1, 97, .inl sn)), (a5, .inl (G.2.1, 60, .inl tx))] ∧ va_S A s.heap H locs) (fun _ => [(0, .ref ob)]) (fun _ => []) ?_ (fun J49 => ?_)
  · rintro _ H locs ls hI ⟨hP, hD, hS⟩ hl
    have hl : lv_has ls 2 [(0, .ref ob)] := hl
    replace hI : True := hI
    have hP : va_P G.1 vwCl [(ob, .inr (6, [.ref a1, .ref a2, .ref a3, .int (nI (svN n)), .ref a4, .int kp, .ref a5, .int (nI len), .int thr, .int (nI spot), .int bad, .int lt, .int one, .int two, .int wh, .long hash])), (a1, .inl (G.2.1, 97, .inl f)), (a2, .inl (G.2.1, 97, .inl th)), (a3, .inl (G.2.1, 582, .inl (svP n pa))), (a4, .inl (G.2.1, 97, .inl sn)), (a5, .inl (G.2.1, 60, .inl tx))] H := hP
    have hD : va_D A [(ob, .inr (6, [.ref a1, .ref a2, .ref a3, .int (nI (svN n)), .ref a4, .int kp, .ref a5, .int (nI len), .int thr, .int (nI spot), .int bad, .int lt, .int one, .int two, .int wh, .long hash])), (a1, .inl (G.2.1, 97, .inl f)), (a2, .inl (G.2.1, 97, .inl th)), (a3, .inl (G.2.1, 582, .inl (svP n pa))), (a4, .inl (G.2.1, 97, .inl sn)), (a5, .inl (G.2.1, 60, .inl tx))] := hD
    refine tS (st' := []) rfl ?_
    refine lv_aload_n hx hb dX6_saves_49 rfl (lv_at hl 0 rfl) ?_
    refine va_get (D := G.1) (ci := 6) (v := .ref a1) (C := RX6) (T := TX6) (N := 16) hx hb hts w_0 hown hE.1 hP 0 rfl rfl 0 (by decide) w_2 (fun _ h9 => h9) rfl dX6_saves_50 ?_
    refine lv_iconst (v := nI 0) hx hb dX6_saves_53 (by decide +kernel) ?_
    refine lv_aload_n hx hb dX6_saves_54 rfl (lv_at hl 0 rfl) ?_
    refine va_get (D := G.1) (ci := 6) (v := .ref a3) (C := RX6) (T := TX6) (N := 16) hx hb hts w_0 hown hE.1 hP 0 rfl rfl 2 (by decide) w_3 (fun _ h9 => h9) rfl dX6_saves_55 ?_
    refine lv_bipush (v := nI 97) hx hb dX6_saves_58 (by decide +kernel) ?_
    refine lv_aload_n hx hb dX6_saves_60 rfl (lv_at hl 0 rfl) ?_
    refine va_get (D := G.1) (ci := 6) (v := .int (nI (svN n))) (C := RX6) (T := TX6) (N := 16) hx hb hts w_0 hown hE.1 hP 0 rfl rfl 3 (by decide) w_1 (fun _ h9 => h9) rfl dX6_saves_61 ?_
    refine imulN hx hb dX6_saves_64 ?_
    have hPc := hP.sub (ws' := [(a1, .inl (G.2.1, 97, .inl f)), (a3, .inl (G.2.1, 582, .inl (svP n pa)))]) [1, 3] rfl
    have hDc := hD.sub (ws' := [(a1, .inl (G.2.1, 97, .inl f)), (a3, .inl (G.2.1, 582, .inl (svP n pa)))]) [1, 3] (by decide) rfl
    refine mcall (st1 := []) (va_runS (As := [.ref a1, .int (nI 0), .ref a3, .int (nI (97 * (svN n)))]) (rest := []) ⟨hx, hb, hml, hown, hts⟩ (c_X6_lays l G a1 a3 97 582 0 (97 * (svN n)) f (svP n pa) (by omega) (by omega) (by decide) (by decide)) (va_cwS 4 hts gX6_saves_X6_lays rfl rfl rfl (by decide +kernel) ⟨Nat.le_of_ble_eq_true rfl, Nat.le_of_ble_eq_true rfl⟩) (PC.preS hE ⟨hPc, hDc.weaken (fun _ _ _ _ => trivial)⟩) rfl rfl hl.1 rfl (lv_room (Nat.le_of_ble_eq_true rfl)) dX6_saves_65 ⟨Nat.zero_le _, Nat.zero_le _⟩) hS (fun q _ h => inW_D hDc q h) (fun q h => inW_D hDc q h) rfl (fun H1 locs1 hB hz1 hk1 hS => ?_)
    obtain ⟨hP1, hD1⟩ := hB
    obtain ⟨hP, hD⟩ := jnW (wr := [(ob, .inr (6, [.ref a1, .ref a2, .ref a3, .int (nI (svN n)), .ref a4, .int kp, .ref a5, .int (nI len), .int thr, .int (nI spot), .int bad, .int lt, .int one, .int two, .int wh, .long hash])), (a2, .inl (G.2.1, 97, .inl th)), (a4, .inl (G.2.1, 97, .inl sn)), (a5, .inl (G.2.1, 60, .inl tx))]) (w1 := [(a1, .inl (G.2.1, 97, .inl f)), (a3, .inl (G.2.1, 582, .inl (va_cpy f (svP n pa) 0 (97 * (svN n)) 97)))]) hP hD [1, 3] [0, 2, 4, 5] rfl rfl (by decide) (by decide) hk1 hP1 hD1
    generalize H1 = H at hP hS ⊢
    replace hP := hP.sub (ws' := [(ob, .inr (6, [.ref a1, .ref a2, .ref a3, .int (nI (svN n)), .ref a4, .int kp, .ref a5, .int (nI len), .int thr, .int (nI spot), .int bad, .int lt, .int one, .int two, .int wh, .long hash])), (a1, .inl (G.2.1, 97, .inl f)), (a2, .inl (G.2.1, 97, .inl th)), (a3, .inl (G.2.1, 582, .inl (va_cpy f (svP n pa) 0 (97 * (svN n)) 97))), (a4, .inl (G.2.1, 97, .inl sn)), (a5, .inl (G.2.1, 60, .inl tx))]) [0, 4, 1, 5, 2, 3] rfl
    replace hD := hD.sub (ws' := [(ob, .inr (6, [.ref a1, .ref a2, .ref a3, .int (nI (svN n)), .ref a4, .int kp, .ref a5, .int (nI len), .int thr, .int (nI spot), .int bad, .int lt, .int one, .int two, .int wh, .long hash])), (a1, .inl (G.2.1, 97, .inl f)), (a2, .inl (G.2.1, 97, .inl th)), (a3, .inl (G.2.1, 582, .inl (va_cpy f (svP n pa) 0 (97 * (svN n)) 97))), (a4, .inl (G.2.1, 97, .inl sn)), (a5, .inl (G.2.1, 60, .inl tx))]) [0, 4, 1, 5, 2, 3] (by decide) rfl
    have hP : va_P G.1 vwCl [(ob, .inr (6, [.ref a1, .ref a2, .ref a3, .int (nI (svN n)), .ref a4, .int kp, .ref a5, .int (nI len), .int thr, .int (nI spot), .int bad, .int lt, .int one, .int two, .int wh, .long hash])), (a1, .inl (G.2.1, 97, .inl f)), (a2, .inl (G.2.1, 97, .inl th)), (a3, .inl (G.2.1, 582, .inl (va_cpy f (svP n pa) 0 (97 * (svN n)) 97))), (a4, .inl (G.2.1, 97, .inl sn)), (a5, .inl (G.2.1, 60, .inl tx))] H := hP
    have hD : va_D A [(ob, .inr (6, [.ref a1, .ref a2, .ref a3, .int (nI (svN n)), .ref a4, .int kp, .ref a5, .int (nI len), .int thr, .int (nI spot), .int bad, .int lt, .int one, .int two, .int wh, .long hash])), (a1, .inl (G.2.1, 97, .inl f)), (a2, .inl (G.2.1, 97, .inl th)), (a3, .inl (G.2.1, 582, .inl (va_cpy f (svP n pa) 0 (97 * (svN n)) 97))), (a4, .inl (G.2.1, 97, .inl sn)), (a5, .inl (G.2.1, 60, .inl tx))] := hD
    refine lv_aload_n hx hb dX6_saves_68 rfl (lv_at hl 0 rfl) ?_
    refine lv_dup hx hb dX6_saves_69 rfl ?_
    refine va_get (D := G.1) (ci := 6) (v := .int (nI (svN n))) (C := RX6) (T := TX6) (N := 16) hx hb hts w_0 hown hE.1 hP 0 rfl rfl 3 (by decide) w_1 (fun _ h9 => h9) rfl dX6_saves_70 ?_
    refine lv_iconst (v := nI 1) hx hb dX6_saves_73 (by decide +kernel) ?_
    refine iaddN hx hb dX6_saves_74 ?_
    refine va_put (D := G.1) (ci := 6) (v := .int (nI ((svN n) + 1))) (ty := .int) (C := RX6) (T := TX6) (N := 16) hx hb hts w_0 tyX6 tyX6_ok nmX6 hown hE.1 hP hD hS 0 rfl rfl 3 (by decide) w_1 (fun _ h9 => h9) rfl (by decide +kernel) rfl rfl (Nat.le_of_ble_eq_true rfl) dX6_saves_75 (fun H locs hP hD hS => ?_)
    have hP : va_P G.1 vwCl [(ob, .inr (6, [.ref a1, .ref a2, .ref a3, .int (nI ((svN n) + 1)), .ref a4, .int kp, .ref a5, .int (nI len), .int thr, .int (nI spot), .int bad, .int lt, .int one, .int two, .int wh, .long hash])), (a1, .inl (G.2.1, 97, .inl f)), (a2, .inl (G.2.1, 97, .inl th)), (a3, .inl (G.2.1, 582, .inl (va_cpy f (svP n pa) 0 (97 * (svN n)) 97))), (a4, .inl (G.2.1, 97, .inl sn)), (a5, .inl (G.2.1, 60, .inl tx))] H := hP
    have hD : va_D A [(ob, .inr (6, [.ref a1, .ref a2, .ref a3, .int (nI ((svN n) + 1)), .ref a4, .int kp, .ref a5, .int (nI len), .int thr, .int (nI spot), .int bad, .int lt, .int one, .int two, .int wh, .long hash])), (a1, .inl (G.2.1, 97, .inl f)), (a2, .inl (G.2.1, 97, .inl th)), (a3, .inl (G.2.1, 582, .inl (va_cpy f (svP n pa) 0 (97 * (svN n)) 97))), (a4, .inl (G.2.1, 97, .inl sn)), (a5, .inl (G.2.1, 60, .inl tx))] := hD
    exact W.vret hx hb hr (fun t ht hW => ⟨rfl, by rw [ht]; exact ⟨hP, hD⟩, hS.F ht⟩) hS.2.2 dX6_saves_78
  · skip
    refine icmp_neN (tgt := 49) hx hb (by omega) (by omega) dX6_saves_6 (by decide) (fun c6 => ?_) (fun c6 => ?_)
    · skip
      exact J49 () _ _ _ trivial (by (try dsimp only); rw [svN_n c6, svP_n c6]; exact ⟨hP, hD, hS⟩) (lv_sub hl [0] rfl)
    · skip
      refine lv_iconst (v := nI 0) hx hb dX6_saves_9 (by decide +kernel) ?_
      refine lv_istore_n (lv' := [(1, .int (nI 0)), (0, .ref ob)]) hx hb dX6_saves_10 rfl hl (by decide) rfl (fun ls hl => ?_)
      refine loopH (σ := Nat) (n := 2) (pc1 := 11) (fun i => 485 - i) (fun i => i ≤ 485) (fun i => fun (H : Heap) (locs : List Loc) => va_P G.1 vwCl [(ob, .inr (6, [.ref a1, .ref a2, .ref a3, .int (nI n), .ref a4, .int kp, .ref a5, .int (nI len), .int thr, .int (nI spot), .int bad, .int lt, .int one, .int two, .int wh, .long hash])), (a1, .inl (G.2.1, 97, .inl f)), (a2, .inl (G.2.1, 97, .inl th)), (a3, .inl (G.2.1, 582, .inl (va_cpy pa pa 97 0 i))), (a4, .inl (G.2.1, 97, .inl sn)), (a5, .inl (G.2.1, 60, .inl tx))] H ∧ va_D A [(ob, .inr (6, [.ref a1, .ref a2, .ref a3, .int (nI n), .ref a4, .int kp, .ref a5, .int (nI len), .int thr, .int (nI spot), .int bad, .int lt, .int one, .int two, .int wh, .long hash])), (a1, .inl (G.2.1, 97, .inl f)), (a2, .inl (G.2.1, 97, .inl th)), (a3, .inl (G.2.1, 582, .inl (va_cpy pa pa 97 0 i))), (a4, .inl (G.2.1, 97, .inl sn)), (a5, .inl (G.2.1, 60, .inl tx))] ∧ va_S A s.heap H locs) (fun i => [(1, .int (nI i)), (0, .ref ob)]) (fun i => []) ?_ (0) H _ _ (Nat.zero_le _) ⟨by rw [cpy_0]; exact hP, by rw [cpy_0]; exact hD, hS⟩ (lv_sub hl [0, 1] rfl)
      rintro i H locs ls hI ⟨hP, hD, hS⟩ hl ih11
      have hl : lv_has ls 2 [(1, .int (nI i)), (0, .ref ob)] := hl
      replace hI : i ≤ 485 := hI
      have hP : va_P G.1 vwCl [(ob, .inr (6, [.ref a1, .ref a2, .ref a3, .int (nI n), .ref a4, .int kp, .ref a5, .int (nI len), .int thr, .int (nI spot), .int bad, .int lt, .int one, .int two, .int wh, .long hash])), (a1, .inl (G.2.1, 97, .inl f)), (a2, .inl (G.2.1, 97, .inl th)), (a3, .inl (G.2.1, 582, .inl (va_cpy pa pa 97 0 i))), (a4, .inl (G.2.1, 97, .inl sn)), (a5, .inl (G.2.1, 60, .inl tx))] H := hP
      have hD : va_D A [(ob, .inr (6, [.ref a1, .ref a2, .ref a3, .int (nI n), .ref a4, .int kp, .ref a5, .int (nI len), .int thr, .int (nI spot), .int bad, .int lt, .int one, .int two, .int wh, .long hash])), (a1, .inl (G.2.1, 97, .inl f)), (a2, .inl (G.2.1, 97, .inl th)), (a3, .inl (G.2.1, 582, .inl (va_cpy pa pa 97 0 i))), (a4, .inl (G.2.1, 97, .inl sn)), (a5, .inl (G.2.1, 60, .inl tx))] := hD
      refine tS (st' := []) rfl ?_
      refine lv_iload_n hx hb dX6_saves_11 rfl (lv_at hl 0 rfl) ?_
      refine lv_sipush (v := nI 485) hx hb dX6_saves_12 (by decide +kernel) ?_
      refine icmp_geN (tgt := 39) hx hb (by omega) (by omega) dX6_saves_15 (by decide) (fun c15 => ?_) (fun c15 => ?_)
      · skip
        have h485 : i = 485 := by omega
        refine lv_aload_n hx hb dX6_saves_39 rfl (lv_at hl 1 rfl) ?_
        refine lv_dup hx hb dX6_saves_40 rfl ?_
        refine va_get (D := G.1) (ci := 6) (v := .int (nI n)) (C := RX6) (T := TX6) (N := 16) hx hb hts w_0 hown hE.1 hP 0 rfl rfl 3 (by decide) w_1 (fun _ h9 => h9) rfl dX6_saves_41 ?_
        refine lv_iconst (v := nI 1) hx hb dX6_saves_44 (by decide +kernel) ?_
        refine isubN hx hb (by omega) dX6_saves_45 ?_
        refine va_put (D := G.1) (ci := 6) (v := .int (nI (n - 1))) (ty := .int) (C := RX6) (T := TX6) (N := 16) hx hb hts w_0 tyX6 tyX6_ok nmX6 hown hE.1 hP hD hS 0 rfl rfl 3 (by decide) w_1 (fun _ h9 => h9) rfl (by decide +kernel) rfl rfl (Nat.le_of_ble_eq_true rfl) dX6_saves_46 (fun H locs hP hD hS => ?_)
        have hP : va_P G.1 vwCl [(ob, .inr (6, [.ref a1, .ref a2, .ref a3, .int (nI (n - 1)), .ref a4, .int kp, .ref a5, .int (nI len), .int thr, .int (nI spot), .int bad, .int lt, .int one, .int two, .int wh, .long hash])), (a1, .inl (G.2.1, 97, .inl f)), (a2, .inl (G.2.1, 97, .inl th)), (a3, .inl (G.2.1, 582, .inl (va_cpy pa pa 97 0 i))), (a4, .inl (G.2.1, 97, .inl sn)), (a5, .inl (G.2.1, 60, .inl tx))] H := hP
        have hD : va_D A [(ob, .inr (6, [.ref a1, .ref a2, .ref a3, .int (nI (n - 1)), .ref a4, .int kp, .ref a5, .int (nI len), .int thr, .int (nI spot), .int bad, .int lt, .int one, .int two, .int wh, .long hash])), (a1, .inl (G.2.1, 97, .inl f)), (a2, .inl (G.2.1, 97, .inl th)), (a3, .inl (G.2.1, 582, .inl (va_cpy pa pa 97 0 i))), (a4, .inl (G.2.1, 97, .inl sn)), (a5, .inl (G.2.1, 60, .inl tx))] := hD
        exact J49 () _ _ _ trivial (by (try dsimp only); rw [svN_6 c6, svP_6 c6, ← h485]; exact ⟨hP, hD, hS⟩) (lv_sub hl [1] rfl)
      · skip
        refine lv_aload_n hx hb dX6_saves_18 rfl (lv_at hl 1 rfl) ?_
        refine va_get (D := G.1) (ci := 6) (v := .ref a3) (C := RX6) (T := TX6) (N := 16) hx hb hts w_0 hown hE.1 hP 0 rfl rfl 2 (by decide) w_3 (fun _ h9 => h9) rfl dX6_saves_19 ?_
        refine lv_iload_n hx hb dX6_saves_22 rfl (lv_at hl 0 rfl) ?_
        refine lv_aload_n hx hb dX6_saves_23 rfl (lv_at hl 1 rfl) ?_
        refine va_get (D := G.1) (ci := 6) (v := .ref a3) (C := RX6) (T := TX6) (N := 16) hx hb hts w_0 hown hE.1 hP 0 rfl rfl 2 (by decide) w_3 (fun _ h9 => h9) rfl dX6_saves_24 ?_
        refine lv_iload_n hx hb dX6_saves_27 rfl (lv_at hl 0 rfl) ?_
        refine lv_bipush (v := nI 97) hx hb dX6_saves_28 (by decide +kernel) ?_
        refine iaddN hx hb dX6_saves_30 ?_
        refine ialdN (k := (i + 97)) hx hb hE.1 hP 3 0 rfl rfl (by omega) (by decide) dX6_saves_31 ?_
        refine tI (y := pa (i + 97)) (cpy_hi (by omega)) ?_
        refine iastN (k := i) hx hb hE.1 hP hD hS 3 0 rfl rfl (by omega) (by decide) dX6_saves_32 (fun H locs hP hD hS => ?_)
        have hP : va_P G.1 vwCl [(ob, .inr (6, [.ref a1, .ref a2, .ref a3, .int (nI n), .ref a4, .int kp, .ref a5, .int (nI len), .int thr, .int (nI spot), .int bad, .int lt, .int one, .int two, .int wh, .long hash])), (a1, .inl (G.2.1, 97, .inl f)), (a2, .inl (G.2.1, 97, .inl th)), (a3, .inl (G.2.1, 582, .inl (upd (va_cpy pa pa 97 0 i) i (pa (i + 97))))), (a4, .inl (G.2.1, 97, .inl sn)), (a5, .inl (G.2.1, 60, .inl tx))] H := hP
        have hD : va_D A [(ob, .inr (6, [.ref a1, .ref a2, .ref a3, .int (nI n), .ref a4, .int kp, .ref a5, .int (nI len), .int thr, .int (nI spot), .int bad, .int lt, .int one, .int two, .int wh, .long hash])), (a1, .inl (G.2.1, 97, .inl f)), (a2, .inl (G.2.1, 97, .inl th)), (a3, .inl (G.2.1, 582, .inl (upd (va_cpy pa pa 97 0 i) i (pa (i + 97))))), (a4, .inl (G.2.1, 97, .inl sn)), (a5, .inl (G.2.1, 60, .inl tx))] := hD
        refine lv_iinc (v := nI (i + 1)) (lv' := [(1, .int (nI (i + 1))), (0, .ref ob)]) hx hb dX6_saves_33 hl (k := 0) rfl (nI_inc1 _) (by decide) rfl (fun ls hl => ?_)
        refine lv_goto (tgt := 11) hx hb dX6_saves_36 (by decide) ?_
        exact ih11 (i + 1) _ _ _ (by omega) ⟨by rw [← cpy_z]; exact hP, by rw [← cpy_z]; exact hD, hS⟩ (lv_sub hl [0, 1] rfl) (by (try dsimp only); omega)

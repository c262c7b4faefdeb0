def cr_L1 : List Nat := [300, 12, 10, 10, 10, 10, 10, 10, 10, 10, 10, 10, 10, 10, 10, 10, 10, 10, 10, 10, 10, 10, 10, 10, 10, 10, 10, 0, 0, 0, 0, 1, 1, 1, 1, 1, 2, 2, 1, 1, 1, 1, 1, 0, 0, 0, 0, 0, 220, 40, 1, 1, 1, 0, 0, 0, 0, 0, 0, 0, 0, 0, 0, 0, 0, 0, 0, 0, 0, 0, 0, 0, 0, 0, 0, 0, 0, 0, 0, 0, 0, 0, 0, 0, 0, 0, 0, 0, 0, 0, 0, 0, 0, 0, 0, 0, 0]
theorem cr_e0 : fCrs (fnL L0) = fnL cr_L1 := fn_eq 97 (by decide +kernel) (by decide +kernel) (hi_crs (hi_fn (by decide +kernel)))
def cr_L2 : List Nat := [300, 12, 10, 10, 10, 10, 10, 10, 10, 10, 10, 10, 10, 10, 10, 10, 10, 10, 10, 10, 10, 10, 10, 10, 10, 10, 10, 0, 0, 0, 0, 2, 2, 2, 2, 2, 4, 4, 2, 2, 2, 2, 2, 0, 0, 0, 0, 0, 440, 40, 2, 0, 2, 0, 0, 0, 0, 0, 0, 0, 0, 0, 0, 0, 0, 0, 0, 0, 0, 0, 0, 0, 0, 0, 0, 0, 0, 0, 0, 0, 0, 0, 0, 0, 0, 0, 0, 0, 0, 0, 0, 0, 0, 0, 0, 0, 0]
theorem cr_e1 : fCrs (fnL cr_L1) = fnL cr_L2 := fn_eq 97 (by decide +kernel) (by decide +kernel) (hi_crs (hi_fn (by decide +kernel)))
def cr_L3 : List Nat := [300, 12, 10, 10, 10, 10, 10, 10, 10, 10, 10, 10, 10, 10, 10, 10, 10, 10, 10, 10, 10, 10, 10, 10, 10, 10, 10, 0, 0, 0, 0, 3, 3, 3, 3, 3, 6, 6, 3, 3, 3, 3, 3, 0, 0, 0, 0, 1, 160, 40, 3, 1, 3, 0, 0, 0, 0, 0, 0, 0, 0, 0, 0, 0, 0, 0, 0, 0, 0, 0, 0, 0, 0, 0, 0, 0, 0, 0, 0, 0, 0, 0, 0, 0, 0, 0, 0, 0, 0, 0, 0, 0, 0, 0, 0, 0, 0]
theorem cr_e2 : fCrs (fnL cr_L2) = fnL cr_L3 := fn_eq 97 (by decide +kernel) (by decide +kernel) (hi_crs (hi_fn (by decide +kernel)))
def cr_L4 : List Nat := [300, 12, 10, 10, 10, 10, 10, 10, 10, 10, 10, 10, 10, 10, 10, 10, 10, 10, 10, 10, 10, 10, 10, 10, 10, 10, 10, 0, 0, 3, 3, 3, 3, 3, 6, 6, 3, 3, 3, 3, 3, 0, 0, 0, 0, 0, 0, 0, 0, 38, 5, 1, 3, 0, 0, 0, 0, 0, 0, 0, 0, 0, 0, 0, 0, 0, 0, 0, 0, 0, 0, 0, 0, 0, 0, 0, 0, 0, 0, 0, 0, 0, 0, 0, 0, 0, 0, 0, 0, 0, 0, 0, 0, 0, 0, 0, 0]
theorem cr_e3 : fDrw (fnL cr_L3) 2 = fnL cr_L4 := fn_eq 97 (by decide +kernel) (by decide +kernel) (hi_drw (hi_fn (by decide +kernel)))
def cr_L5 : List Nat := [300, 12, 10, 10, 10, 10, 10, 10, 10, 10, 10, 10, 10, 10, 10, 10, 10, 10, 10, 10, 10, 10, 10, 10, 10, 10, 10, 0, 0, 3, 3, 4, 4, 4, 7, 7, 5, 5, 4, 4, 4, 1, 1, 0, 0, 0, 0, 0, 220, 38, 6, 0, 4, 0, 0, 0, 0, 0, 0, 0, 0, 0, 0, 0, 0, 0, 0, 0, 0, 0, 0, 0, 0, 0, 0, 0, 0, 0, 0, 0, 0, 0, 0, 0, 0, 0, 0, 0, 0, 0, 0, 0, 0, 0, 0, 0, 0]
theorem cr_e4 : fCrs (fnL cr_L4) = fnL cr_L5 := fn_eq 97 (by decide +kernel) (by decide +kernel) (hi_crs (hi_fn (by decide +kernel)))
def cr_L6 : List Nat := [300, 12, 10, 10, 10, 10, 10, 10, 10, 10, 10, 10, 10, 10, 10, 10, 10, 10, 10, 10, 10, 10, 10, 10, 10, 10, 10, 0, 0, 3, 3, 4, 4, 4, 7, 7, 5, 5, 4, 4, 4, 1, 1, 0, 0, 0, 0, 0, 220, 38, 6, 0, 4, 1, 0, 0, 0, 1, 10, 0, 0, 0, 0, 0, 0, 0, 0, 0, 0, 0, 0, 0, 0, 0, 0, 0, 0, 0, 0, 0, 0, 0, 0, 0, 0, 0, 0, 0, 0, 0, 0, 0, 0, 0, 0, 0, 0]
theorem cr_e5 : fArr (fnL cr_L5) 0 (nI 10) = fnL cr_L6 := fn_eq 97 (by decide +kernel) (by decide +kernel) (hi_arr (hi_fn (by decide +kernel)) (by decide) (by decide +kernel))
def cr_L7 : List Nat := [300, 12, 10, 10, 10, 10, 10, 10, 10, 10, 10, 10, 10, 10, 10, 10, 10, 10, 10, 10, 10, 10, 10, 10, 10, 10, 10, 0, 0, 3, 3, 4, 4, 4, 7, 7, 5, 5, 4, 4, 4, 1, 1, 0, 0, 0, 0, 0, 220, 38, 6, 0, 4, 2, 0, 0, 0, 2, 10, 7, 0, 0, 0, 0, 0, 0, 0, 0, 0, 0, 0, 0, 0, 0, 0, 0, 0, 0, 0, 0, 0, 0, 0, 0, 0, 0, 0, 0, 0, 0, 0, 0, 0, 0, 0, 0, 0]
theorem cr_e6 : fArr (fnL cr_L6) 0 (nI 7) = fnL cr_L7 := fn_eq 97 (by decide +kernel) (by decide +kernel) (hi_arr (hi_fn (by decide +kernel)) (by decide) (by decide +kernel))
def cr_L8 : List Nat := [300, 12, 10, 10, 10, 10, 10, 10, 10, 10, 10, 10, 10, 10, 10, 10, 10, 10, 10, 10, 10, 10, 10, 10, 10, 10, 10, 0, 0, 3, 3, 4, 4, 4, 7, 7, 5, 5, 4, 4, 4, 1, 1, 0, 0, 0, 0, 0, 220, 38, 6, 0, 4, 3, 0, 0, 0, 2, 10, 7, 0, 0, 0, 0, 0, 0, 0, 0, 1, 5, 0, 0, 0, 0, 0, 0, 0, 0, 0, 0, 0, 0, 0, 0, 0, 0, 0, 0, 0, 0, 0, 0, 0, 0, 0, 0, 0]
theorem cr_e7 : fArr (fnL cr_L7) 1 (nI 5) = fnL cr_L8 := fn_eq 97 (by decide +kernel) (by decide +kernel) (hi_arr (hi_fn (by decide +kernel)) (by decide) (by decide +kernel))
def cr_L9 : List Nat := [300, 12, 10, 10, 10, 10, 10, 10, 10, 10, 10, 10, 10, 10, 10, 10, 10, 10, 10, 10, 10, 10, 10, 10, 10, 10, 10, 0, 0, 3, 3, 4, 4, 4, 7, 7, 5, 5, 4, 4, 4, 1, 1, 0, 0, 0, 0, 0, 220, 38, 8, 0, 4, 3, 0, 0, 6, 2, 10, 7, 0, 0, 0, 0, 0, 0, 0, 0, 1, 5, 0, 0, 0, 0, 0, 0, 0, 0, 0, 0, 0, 0, 0, 0, 0, 0, 0, 0, 0, 0, 0, 0, 0, 0, 0, 0, 0]
theorem cr_e8 : fPas (fnL cr_L8) (nI 2) = fnL cr_L9 := fn_eq 97 (by decide +kernel) (by decide +kernel) (hi_pas (hi_fn (by decide +kernel)))
def cr_L10 : List Nat := [300, 12, 10, 10, 10, 10, 10, 10, 10, 10, 10, 10, 10, 10, 10, 10, 10, 10, 10, 10, 10, 10, 10, 10, 10, 10, 10, 0, 0, 3, 3, 4, 4, 4, 7, 7, 5, 5, 4, 4, 4, 1, 1, 0, 0, 0, 0, 0, 220, 38, 8, 0, 4, 3, 0, 0, 6, 1, 7, 0, 0, 0, 0, 0, 0, 0, 0, 0, 1, 5, 0, 0, 0, 0, 0, 0, 0, 0, 0, 1, 10, 0, 0, 0, 0, 0, 0, 0, 0, 0, 0, 0, 0, 0, 0, 0, 0]
theorem cr_e9 : fLod (fnL cr_L9) 0 = fnL cr_L10 := fn_eq 97 (by decide +kernel) (by decide +kernel) (hi_lod (hi_fn (by decide +kernel)) (by decide) (by decide +kernel) (by decide +kernel))
def cr_L11 : List Nat := [300, 12, 10, 10, 10, 10, 10, 10, 10, 10, 10, 10, 10, 10, 10, 10, 10, 10, 10, 10, 10, 10, 10, 10, 10, 10, 10, 0, 0, 3, 3, 4, 4, 4, 7, 7, 5, 5, 4, 4, 4, 1, 1, 0, 0, 0, 0, 0, 220, 38, 8, 0, 4, 3, 0, 0, 6, 0, 0, 0, 0, 0, 0, 0, 0, 0, 0, 0, 1, 5, 0, 0, 0, 0, 0, 0, 0, 0, 0, 2, 10, 0, 7, 0, 0, 0, 0, 0, 0, 0, 0, 0, 0, 0, 0, 0, 0]
theorem cr_e10 : fLod (fnL cr_L10) 0 = fnL cr_L11 := fn_eq 97 (by decide +kernel) (by decide +kernel) (hi_lod (hi_fn (by decide +kernel)) (by decide) (by decide +kernel) (by decide +kernel))
def cr_L12 : List Nat := [300, 12, 10, 10, 10, 10, 10, 10, 10, 10, 10, 10, 10, 10, 10, 10, 10, 10, 10, 10, 10, 10, 10, 10, 10, 10, 10, 0, 0, 3, 3, 4, 4, 4, 7, 7, 5, 5, 4, 4, 4, 1, 1, 0, 0, 0, 0, 0, 220, 38, 8, 0, 4, 3, 0, 2, 6, 0, 0, 0, 0, 0, 0, 0, 0, 0, 0, 0, 1, 5, 0, 0, 0, 0, 0, 0, 0, 0, 0, 0, 0, 0, 0, 0, 0, 0, 0, 0, 0, 0, 0, 0, 0, 0, 0, 0, 0]
theorem cr_e11 : fUnl (fnL cr_L11) = fnL cr_L12 := fn_eq 97 (by decide +kernel) (by decide +kernel) (hi_unl (hi_fn (by decide +kernel)))
def cr_L13 : List Nat := [300, 17, 10, 10, 10, 10, 10, 10, 10, 10, 10, 10, 10, 10, 10, 10, 10, 10, 10, 10, 10, 10, 10, 10, 10, 10, 10, 0, 0, 3, 3, 4, 4, 4, 7, 7, 5, 5, 4, 4, 4, 1, 1, 0, 0, 0, 0, 0, 220, 38, 8, 0, 4, 3, 0, 0, 6, 0, 0, 0, 0, 0, 0, 0, 0, 0, 0, 0, 1, 5, 0, 0, 0, 0, 0, 0, 0, 0, 0, 2, 10, 0, 7, 0, 0, 0, 0, 0, 0, 0, 0, 0, 0, 0, 0, 0, 0]
theorem cr_e12 : upd (fnL cr_L11) 1 (nI 17) = fnL cr_L13 := fn_eq 97 (by decide +kernel) (by decide +kernel) (hi_u (hi_fn (by decide +kernel)) (by decide))
def cr_L14 : List Nat := [300, 17, 10, 10, 10, 10, 10, 10, 10, 10, 10, 10, 10, 10, 10, 10, 10, 10, 10, 10, 10, 10, 10, 10, 10, 10, 10, 5, 5, 9, 9, 10, 11, 11, 15, 15, 13, 13, 12, 12, 11, 8, 7, 6, 6, 5, 5, 3, 138, 38, 9, 1, 5, 3, 0, 0, 7, 0, 0, 0, 0, 0, 0, 0, 0, 0, 0, 0, 1, 5, 0, 0, 0, 0, 0, 0, 0, 0, 0, 2, 10, 0, 7, 0, 0, 0, 0, 0, 0, 0, 0, 0, 0, 0, 0, 0, 0]
theorem cr_e13 : fCrs (fnL cr_L13) = fnL cr_L14 := fn_eq 97 (by decide +kernel) (by decide +kernel) (hi_crs (hi_fn (by decide +kernel)))
def cr_L15 : List Nat := [300, 17, 10, 10, 10, 10, 10, 10, 10, 10, 10, 10, 10, 10, 10, 10, 10, 10, 10, 10, 10, 10, 10, 10, 10, 10, 10, 5, 5, 9, 9, 10, 11, 11, 15, 15, 13, 13, 12, 12, 11, 8, 7, 6, 6, 5, 5, 3, 138, 38, 9, 1, 5, 3, 0, 0, 7, 0, 0, 0, 0, 0, 0, 0, 0, 0, 0, 0, 0, 0, 0, 0, 0, 0, 0, 0, 0, 0, 0, 2, 10, 0, 7, 0, 0, 0, 0, 0, 1, 5, 1, 0, 0, 0, 0, 0, 0]
theorem cr_e14 : fLod (fnL cr_L14) 1 = fnL cr_L15 := fn_eq 97 (by decide +kernel) (by decide +kernel) (hi_lod (hi_fn (by decide +kernel)) (by decide) (by decide +kernel) (by decide +kernel))
def cr_L16 : List Nat := [300, 17, 10, 10, 10, 10, 10, 10, 10, 10, 10, 10, 10, 10, 10, 10, 10, 10, 10, 10, 10, 10, 10, 10, 10, 10, 10, 5, 5, 9, 9, 10, 11, 11, 15, 15, 13, 13, 12, 12, 11, 8, 7, 6, 6, 5, 5, 3, 138, 38, 9, 1, 5, 3, 2, 1, 7, 0, 0, 0, 0, 0, 0, 0, 0, 0, 0, 0, 0, 0, 0, 0, 0, 0, 0, 0, 0, 0, 0, 0, 0, 0, 0, 0, 0, 0, 0, 0, 0, 0, 0, 0, 0, 0, 0, 0, 0]
theorem cr_e15 : fUnl (fnL cr_L15) = fnL cr_L16 := fn_eq 97 (by decide +kernel) (by decide +kernel) (hi_unl (hi_fn (by decide +kernel)))
set_option maxHeartbeats 8000000 in
set_option maxRecDepth 100000 in
theorem cr_s4 {p : Program} {l : Launch} {e : Env} {s : State} {m : MethodId} {below : List Frame} {meth : Method} {c : Code} {G : eG} {lo : Nat} (hlt : l.stackTraces = false) (hL : LC cL_crossings 1 wsL_crossings p s m meth c ([] : List Value).toArray G lo) {q0 : Nat} {ff16 : Nat → Nat → Int32} {WC : va_W} {H : Heap} {locs : List Loc} {ls : Array Slot} (hX : XS G q0 (fnL cr_L16) (fnL L0) ff16 3 6 0 (fnL T0) (nI 0) WC) (hR : PR 160000 (fnL cr_L16) (fnL L0) ff16 3 6 0 (fnL T0) (nI 0)) (hP : va_P G.1 vwCl (WC ++ []) H) (hD : va_D (AA s) (WC ++ [])) (hS : va_S (AA s) s.heap H locs) (hl : lv_has ls 1 [(0, .ref q0)]) : W p l e ({ frames := 10, cells := 258, slots := 1912, locals := 193 }) s m ([] : List Value).toArray below meth c H locs 258 1912 (MQ below (MV (some (.int (nI 1))) (fun _ => True) (AA s)) ([] : List Value).toArray s 258 1912 (AA s)) (F0 m 867 ls []) := by
  have hL9 := hL
  obtain ⟨hx, hb, hml, hown, hts, hE, hJ0, hF0, hr, hlocks⟩ := hL
  have hAl : ∀ q, AA s q → lo ≤ q := fun q h => Nat.le_trans hJ0.1 h
  have hA : ∀ q : Nat, s.heap.size ≤ q → AA s q := fun _ h => h
  have hJ : JB lo s _ := hJ0.S hAl hS
  refine lv_aload_n hx hb dL_crossings_867 rfl (lv_at hl 0 rfl) ?_
  refine lv_bipush (v := nI 13) hx hb dL_crossings_868 (by decide +kernel) ?_
  refine cx0 (st1 := [.int (fCnt (fnL cr_L16) 6 13)]) (va_runV (As := [.int (nI 13)]) (rest := []) ⟨hx, hb, hml, hown, hts⟩ (CX_count_ok l G hX hR (by decide) 13 (by decide +kernel)) (cwV 1 hts gL_crossings_X5_count rfl rfl rfl (by decide +kernel) ⟨Nat.le_of_ble_eq_true rfl, Nat.le_of_ble_eq_true rfl⟩) (PJ.preV hE hJ.jx (xs_recv hE.1 hX (P_pre hP)) ⟨P_pre hP, D_tr (D_pre hD)⟩) rfl rfl hl.1 rfl (lv_room (Nat.le_of_ble_eq_true rfl)) dL_crossings_870 ⟨Nat.le_of_ble_eq_true rfl, Nat.le_of_ble_eq_true rfl⟩) hP hD hS hJ0 hAl rfl (fun WC H locs hX hP hD hS hJ => ?_)
  refine tI (y := nI 6) (by decide +kernel) ?_
  refine lv_bipush (v := nI 6) hx hb dL_crossings_873 (by decide +kernel) ?_
  refine lv_icmp_ne (tgt := 882) hx hb dL_crossings_875 (by decide) (fun h => absurd h (by decide +kernel)) (fun _ => ?_)
  refine lv_iconst (v := nI 1) hx hb dL_crossings_878 (by decide +kernel) ?_
  refine lv_goto (tgt := 883) hx hb dL_crossings_879 (by decide) ?_
  refine W.widen (k := 258) (n := 1912) (Nat.le_of_ble_eq_true rfl) (Nat.le_of_ble_eq_true rfl) ?_
  exact W.zret hx hb hr rfl (fun t ht hW => ⟨rfl, trivial, hS.F ht⟩) hS.2.2 dL_crossings_883
set_option maxHeartbeats 8000000 in
set_option maxRecDepth 100000 in
theorem cr_s3 {p : Program} {l : Launch} {e : Env} {s : State} {m : MethodId} {below : List Frame} {meth : Method} {c : Code} {G : eG} {lo : Nat} (hlt : l.stackTraces = false) (hL : LC cL_crossings 1 wsL_crossings p s m meth c ([] : List Value).toArray G lo) {q0 : Nat} {ff11 : Nat → Nat → Int32} {WC : va_W} {H : Heap} {locs : List Loc} {ls : Array Slot} (hX : XS G q0 (fnL cr_L11) (fnL L0) ff11 5 6 0 (fnL T0) (nI 0) WC) (hR : PR 110000 (fnL cr_L11) (fnL L0) ff11 5 6 0 (fnL T0) (nI 0)) (hP : va_P G.1 vwCl (WC ++ []) H) (hD : va_D (AA s) (WC ++ [])) (hS : va_S (AA s) s.heap H locs) (hl : lv_has ls 1 [(0, .ref q0)]) : W p l e ({ frames := 10, cells := 258, slots := 1912, locals := 193 }) s m ([] : List Value).toArray below meth c H locs 209 1618 (MQ below (MV (some (.int (nI 1))) (fun _ => True) (AA s)) ([] : List Value).toArray s 258 1912 (AA s)) (F0 m 664 ls []) := by
  have hL9 := hL
  obtain ⟨hx, hb, hml, hown, hts, hE, hJ0, hF0, hr, hlocks⟩ := hL
  have hAl : ∀ q, AA s q → lo ≤ q := fun q h => Nat.le_trans hJ0.1 h
  have hA : ∀ q : Nat, s.heap.size ≤ q → AA s q := fun _ h => h
  have hJ : JB lo s _ := hJ0.S hAl hS
  refine lv_aload_n hx hb dL_crossings_664 rfl (lv_at hl 0 rfl) ?_
  refine cx0 (st1 := [.int (fRsn (fnL cr_L11))]) (va_runV (As := []) (rest := []) ⟨hx, hb, hml, hown, hts⟩ (CX_why l G hX hR (by decide) ) (cwV 0 hts gL_crossings_X5_why rfl rfl rfl (by decide +kernel) ⟨Nat.le_of_ble_eq_true rfl, Nat.le_of_ble_eq_true rfl⟩) (PJ.preV hE hJ.jx (xs_recv hE.1 hX (P_pre hP)) ⟨P_pre hP, D_tr (D_pre hD)⟩) rfl rfl hl.1 rfl (lv_room (Nat.le_of_ble_eq_true rfl)) dL_crossings_665 ⟨Nat.le_of_ble_eq_true rfl, Nat.le_of_ble_eq_true rfl⟩) hP hD hS hJ0 hAl rfl (fun WC H locs hX hP hD hS hJ => ?_)
  refine tI (y := nI 1) (by decide +kernel) ?_
  refine lv_iconst (v := nI 1) hx hb dL_crossings_668 (by decide +kernel) ?_
  refine lv_icmp_ne (tgt := 706) hx hb dL_crossings_669 (by decide) (fun h => absurd h (by decide +kernel)) (fun _ => ?_)
  refine lv_aload_n hx hb dL_crossings_672 rfl (lv_at hl 0 rfl) ?_
  refine lv_iconst (v := nI 3) hx hb dL_crossings_673 (by decide +kernel) ?_
  refine lv_iconst (v := nI 0) hx hb dL_crossings_674 (by decide +kernel) ?_
  refine lv_iconst (v := nI 0) hx hb dL_crossings_675 (by decide +kernel) ?_
  refine cxc (st1 := [.int (-13)]) (vx_runSW (As := [.ref q0, .int (nI 3), .int (nI 0), .int (nI 0)]) (rest := []) ⟨hx, hb, hml, hown, hts⟩ (CC_cross_e1 l hlt G hX hR (by decide) (by decide +kernel) (nI 0) (nI 0)) (vx_cwSW 4 hts gL_crossings_L_call rfl rfl rfl (by decide +kernel) ⟨Nat.le_of_ble_eq_true rfl, Nat.le_of_ble_eq_true rfl⟩) (PK.preS hE hJ ⟨P_pre hP, D_al hAl (D_pre hD)⟩) rfl rfl hl.1 rfl (lv_room (Nat.le_of_ble_eq_true rfl)) dL_crossings_676 ⟨Nat.le_of_ble_eq_true rfl, Nat.le_of_ble_eq_true rfl⟩) hP hD hS hJ0 hAl rfl (fun WC H locs hX hP hD hS hJ => ?_)
  refine lv_bipush (v := -13) hx hb dL_crossings_679 (by decide +kernel) ?_
  refine lv_icmp_ne (tgt := 706) hx hb dL_crossings_681 (by decide) (fun h => absurd h (by decide +kernel)) (fun _ => ?_)
  refine lv_aload_n hx hb dL_crossings_684 rfl (lv_at hl 0 rfl) ?_
  refine cx0 (st1 := [.int (fNd (fnL cr_L11))]) (va_runV (As := []) (rest := []) ⟨hx, hb, hml, hown, hts⟩ (CX_needed_ok l G hX hR (by decide) ) (cwV 0 hts gL_crossings_X5_needed rfl rfl rfl (by decide +kernel) ⟨Nat.le_of_ble_eq_true rfl, Nat.le_of_ble_eq_true rfl⟩) (PJ.preV hE hJ.jx (xs_recv hE.1 hX (P_pre hP)) ⟨P_pre hP, D_tr (D_pre hD)⟩) rfl rfl hl.1 rfl (lv_room (Nat.le_of_ble_eq_true rfl)) dL_crossings_685 ⟨Nat.le_of_ble_eq_true rfl, Nat.le_of_ble_eq_true rfl⟩) hP hD hS hJ0 hAl rfl (fun WC H locs hX hP hD hS hJ => ?_)
  refine tI (y := (-1)) (by decide +kernel) ?_
  refine lv_iconst (v := -1) hx hb dL_crossings_688 (by decide +kernel) ?_
  refine lv_icmp_ne (tgt := 706) hx hb dL_crossings_689 (by decide) (fun h => absurd h (by decide +kernel)) (fun _ => ?_)
  refine lv_aload_n hx hb dL_crossings_692 rfl (lv_at hl 0 rfl) ?_
  refine cx0 (st1 := [.int (nI (nCr 100 (fnL cr_L11)))]) (va_runV (As := []) (rest := []) ⟨hx, hb, hml, hown, hts⟩ (CX_lasts_ok l G hX hR (by decide) ) (cwV 0 hts gL_crossings_X5_lasts rfl rfl rfl (by decide +kernel) ⟨Nat.le_of_ble_eq_true rfl, Nat.le_of_ble_eq_true rfl⟩) (PJ.preV hE hJ.jx (xs_recv hE.1 hX (P_pre hP)) ⟨P_pre hP, D_tr (D_pre hD)⟩) rfl rfl hl.1 rfl (lv_room (Nat.le_of_ble_eq_true rfl)) dL_crossings_693 ⟨Nat.le_of_ble_eq_true rfl, Nat.le_of_ble_eq_true rfl⟩) hP hD hS hJ0 hAl rfl (fun WC H locs hX hP hD hS hJ => ?_)
  refine tI (y := nI 0) (by decide +kernel) ?_
  refine lv_if_ne (tgt := 706) hx hb dL_crossings_696 (by decide) (fun h => absurd h (by decide +kernel)) (fun _ => ?_)
  refine lv_aload_n hx hb dL_crossings_699 rfl (lv_at hl 0 rfl) ?_
  refine cxc (st1 := [.int (nI 1)]) (va_runS (As := [.ref q0]) (rest := []) ⟨hx, hb, hml, hown, hts⟩ (K_refused l hlt G hX hR (by decide)) (va_cwS 1 hts gL_crossings_L_refused rfl rfl rfl (by decide +kernel) ⟨Nat.le_of_ble_eq_true rfl, Nat.le_of_ble_eq_true rfl⟩) (PK.preS hE hJ ⟨P_pre hP, D_al hAl (D_pre hD)⟩) rfl rfl hl.1 rfl (lv_room (Nat.le_of_ble_eq_true rfl)) dL_crossings_700 ⟨Nat.le_of_ble_eq_true rfl, Nat.le_of_ble_eq_true rfl⟩) hP hD hS hJ0 hAl rfl (fun WC H locs hX hP hD hS hJ => ?_)
  refine lv_if_ne (tgt := 708) hx hb dL_crossings_703 (by decide) (fun _ => ?_) (fun h => absurd h (by decide +kernel))
  refine lv_aload_n hx hb dL_crossings_708 rfl (lv_at hl 0 rfl) ?_
  refine cx0 (st1 := [.int (unC (fnL cr_L11))]) (va_runV (As := []) (rest := []) ⟨hx, hb, hml, hown, hts⟩ (CX_unload_ok l G hX hR (by decide) ) (cwV 0 hts gL_crossings_X5_unload rfl rfl rfl (by decide +kernel) ⟨Nat.le_of_ble_eq_true rfl, Nat.le_of_ble_eq_true rfl⟩) (PJ.preV hE hJ.jx (xs_recv hE.1 hX (P_pre hP)) ⟨P_pre hP, D_tr (D_pre hD)⟩) rfl rfl hl.1 rfl (lv_room (Nat.le_of_ble_eq_true rfl)) dL_crossings_709 ⟨Nat.le_of_ble_eq_true rfl, Nat.le_of_ble_eq_true rfl⟩) hP hD hS hJ0 hAl rfl (fun WC H locs hX hP hD hS hJ => ?_)
  have hR := PR_sav (B' := 120000) (f' := fUnl (fnL cr_L11)) (by decide) hR (okf_mono (by decide) (okf_unl (by decide) hR.1))
  rw [cr_e11] at hX hR
  replace hX : XS G q0 (fnL cr_L12) (fnL L0) (rgS ff11 5 (fnL cr_L11)) 0 6 0 (fnL T0) (nI 0) WC := hX
  replace hR : PR 120000 (fnL cr_L12) (fnL L0) (rgS ff11 5 (fnL cr_L11)) 0 6 0 (fnL T0) (nI 0) := hR
  obtain ⟨ff12, hff12⟩ : ∃ F, F = rgS ff11 5 (fnL cr_L11) := ⟨_, rfl⟩
  rw [← hff12] at hX hR
  refine tI (y := nI 0) (by decide +kernel) ?_
  refine lv_if_ne (tgt := 882) hx hb dL_crossings_712 (by decide) (fun h => absurd h (by decide +kernel)) (fun _ => ?_)
  refine lv_aload_n hx hb dL_crossings_715 rfl (lv_at hl 0 rfl) ?_
  refine lv_bipush (v := nI 11) hx hb dL_crossings_716 (by decide +kernel) ?_
  refine cx0 (st1 := [.int (fCnt (fnL cr_L12) 6 11)]) (va_runV (As := [.int (nI 11)]) (rest := []) ⟨hx, hb, hml, hown, hts⟩ (CX_count_ok l G hX hR (by decide) 11 (by decide +kernel)) (cwV 1 hts gL_crossings_X5_count rfl rfl rfl (by decide +kernel) ⟨Nat.le_of_ble_eq_true rfl, Nat.le_of_ble_eq_true rfl⟩) (PJ.preV hE hJ.jx (xs_recv hE.1 hX (P_pre hP)) ⟨P_pre hP, D_tr (D_pre hD)⟩) rfl rfl hl.1 rfl (lv_room (Nat.le_of_ble_eq_true rfl)) dL_crossings_718 ⟨Nat.le_of_ble_eq_true rfl, Nat.le_of_ble_eq_true rfl⟩) hP hD hS hJ0 hAl rfl (fun WC H locs hX hP hD hS hJ => ?_)
  refine tI (y := nI 2) (by decide +kernel) ?_
  refine lv_iconst (v := nI 2) hx hb dL_crossings_721 (by decide +kernel) ?_
  refine lv_icmp_ne (tgt := 882) hx hb dL_crossings_722 (by decide) (fun h => absurd h (by decide +kernel)) (fun _ => ?_)
  refine lv_aload_n hx hb dL_crossings_725 rfl (lv_at hl 0 rfl) ?_
  refine cx0 (st1 := [.double (fCs (fnL cr_L12))]) (va_runV (As := []) (rest := []) ⟨hx, hb, hml, hown, hts⟩ (CX_carriedShare l G hX hR (by decide) ) (cwV 0 hts gL_crossings_X5_carriedShare rfl rfl rfl (by decide +kernel) ⟨Nat.le_of_ble_eq_true rfl, Nat.le_of_ble_eq_true rfl⟩) (PJ.preV hE hJ.jx (xs_recv hE.1 hX (P_pre hP)) ⟨P_pre hP, D_tr (D_pre hD)⟩) rfl rfl hl.1 rfl (lv_room (Nat.le_of_ble_eq_true rfl)) dL_crossings_726 ⟨Nat.le_of_ble_eq_true rfl, Nat.le_of_ble_eq_true rfl⟩) hP hD hS hJ0 hAl rfl (fun WC H locs hX hP hD hS hJ => ?_)
  refine lv_dconst0 hx hb dL_crossings_729 ?_
  refine lv_dcmp hx hb dL_crossings_730 ?_
  refine tI (y := nI 0) (by decide +kernel) ?_
  refine lv_if_ne (tgt := 882) hx hb dL_crossings_731 (by decide) (fun h => absurd h (by decide +kernel)) (fun _ => ?_)
  refine lv_aload_n hx hb dL_crossings_734 rfl (lv_at hl 0 rfl) ?_
  refine cx0 (st1 := [.int (nI (6 - 1))]) (va_runV (As := []) (rest := []) ⟨hx, hb, hml, hown, hts⟩ (CX_undo_ok l G hX hR (by decide) (by decide +kernel)) (cwV 0 hts gL_crossings_X5_undo rfl rfl rfl (by decide +kernel) ⟨Nat.le_of_ble_eq_true rfl, Nat.le_of_ble_eq_true rfl⟩) (PJ.preV hE hJ.jx (xs_recv hE.1 hX (P_pre hP)) ⟨P_pre hP, D_tr (D_pre hD)⟩) rfl rfl hl.1 rfl (lv_room (Nat.le_of_ble_eq_true rfl)) dL_crossings_735 ⟨Nat.le_of_ble_eq_true rfl, Nat.le_of_ble_eq_true rfl⟩) hP hD hS hJ0 hAl rfl (fun WC H locs hX hP hD hS hJ => ?_)
  have e9 : ff12 (hBk 0 6) = (fnL cr_L11) := by rw [hff12]; rfl
  have hR := PR_sz (z := 5) (by decide) (PR_f hR (e9 ▸ hR.2.2.1 (hBk 0 6) (by decide)))
  rw [e9] at hX
  replace hX : XS G q0 (fnL cr_L11) (fnL L0) ff12 0 5 0 (fnL T0) (nI 0) WC := hX
  replace hR : PR 120000 (fnL cr_L11) (fnL L0) ff12 0 5 0 (fnL T0) (nI 0) := hR
  refine tI (y := nI 5) (by decide +kernel) ?_
  refine lv_iconst (v := nI 5) hx hb dL_crossings_738 (by decide +kernel) ?_
  refine lv_icmp_ne (tgt := 882) hx hb dL_crossings_739 (by decide) (fun h => absurd h (by decide +kernel)) (fun _ => ?_)
  refine lv_aload_n hx hb dL_crossings_742 rfl (lv_at hl 0 rfl) ?_
  refine lv_iconst (v := nI 2) hx hb dL_crossings_743 (by decide +kernel) ?_
  refine cx0 (st1 := [.int (fCnt (fnL cr_L11) 5 2)]) (va_runV (As := [.int (nI 2)]) (rest := []) ⟨hx, hb, hml, hown, hts⟩ (CX_count_ok l G hX hR (by decide) 2 (by decide +kernel)) (cwV 1 hts gL_crossings_X5_count rfl rfl rfl (by decide +kernel) ⟨Nat.le_of_ble_eq_true rfl, Nat.le_of_ble_eq_true rfl⟩) (PJ.preV hE hJ.jx (xs_recv hE.1 hX (P_pre hP)) ⟨P_pre hP, D_tr (D_pre hD)⟩) rfl rfl hl.1 rfl (lv_room (Nat.le_of_ble_eq_true rfl)) dL_crossings_744 ⟨Nat.le_of_ble_eq_true rfl, Nat.le_of_ble_eq_true rfl⟩) hP hD hS hJ0 hAl rfl (fun WC H locs hX hP hD hS hJ => ?_)
  refine tI (y := nI 2) (by decide +kernel) ?_
  refine lv_iconst (v := nI 2) hx hb dL_crossings_747 (by decide +kernel) ?_
  refine lv_icmp_ne (tgt := 882) hx hb dL_crossings_748 (by decide) (fun h => absurd h (by decide +kernel)) (fun _ => ?_)
  refine lv_aload_n hx hb dL_crossings_751 rfl (lv_at hl 0 rfl) ?_
  refine lv_iconst (v := nI 1) hx hb dL_crossings_752 (by decide +kernel) ?_
  refine lv_bipush (v := nI 17) hx hb dL_crossings_753 (by decide +kernel) ?_
  refine cx0 (st1 := [.int ((fnL cr_L11) 1)]) (va_runV (As := [.int (nI 1), .int (nI 17)]) (rest := []) ⟨hx, hb, hml, hown, hts⟩ (CX_set_ok l G hX hR (by decide) 1 17 (by decide +kernel) (by decide +kernel) (by decide +kernel)) (cwV 2 hts gL_crossings_X5_set rfl rfl rfl (by decide +kernel) ⟨Nat.le_of_ble_eq_true rfl, Nat.le_of_ble_eq_true rfl⟩) (PJ.preV hE hJ.jx (xs_recv hE.1 hX (P_pre hP)) ⟨P_pre hP, D_tr (D_pre hD)⟩) rfl rfl hl.1 rfl (lv_room (Nat.le_of_ble_eq_true rfl)) dL_crossings_755 ⟨Nat.le_of_ble_eq_true rfl, Nat.le_of_ble_eq_true rfl⟩) hP hD hS hJ0 hAl rfl (fun WC H locs hX hP hD hS hJ => ?_)
  have hR := PR_sav (B' := 130000) (f' := upd (fnL cr_L11) 1 (nI 17)) (by decide) hR (okf_mono (by decide) (okf_set hR.1 (by decide) (by decide +kernel) (by decide +kernel)))
  rw [cr_e12] at hX hR
  replace hX : XS G q0 (fnL cr_L13) (fnL L0) (rgS ff12 5 (fnL cr_L11)) 0 6 0 (fnL T0) (nI 0) WC := hX
  replace hR : PR 130000 (fnL cr_L13) (fnL L0) (rgS ff12 5 (fnL cr_L11)) 0 6 0 (fnL T0) (nI 0) := hR
  obtain ⟨ff13, hff13⟩ : ∃ F, F = rgS ff12 5 (fnL cr_L11) := ⟨_, rfl⟩
  rw [← hff13] at hX hR
  refine tI (y := nI 12) (by decide +kernel) ?_
  refine lv_bipush (v := nI 12) hx hb dL_crossings_758 (by decide +kernel) ?_
  refine lv_icmp_ne (tgt := 882) hx hb dL_crossings_760 (by decide) (fun h => absurd h (by decide +kernel)) (fun _ => ?_)
  refine lv_aload_n hx hb dL_crossings_763 rfl (lv_at hl 0 rfl) ?_
  refine cx0 (st1 := [.int (fRsn (fnL cr_L13))]) (va_runV (As := []) (rest := []) ⟨hx, hb, hml, hown, hts⟩ (CX_why l G hX hR (by decide) ) (cwV 0 hts gL_crossings_X5_why rfl rfl rfl (by decide +kernel) ⟨Nat.le_of_ble_eq_true rfl, Nat.le_of_ble_eq_true rfl⟩) (PJ.preV hE hJ.jx (xs_recv hE.1 hX (P_pre hP)) ⟨P_pre hP, D_tr (D_pre hD)⟩) rfl rfl hl.1 rfl (lv_room (Nat.le_of_ble_eq_true rfl)) dL_crossings_764 ⟨Nat.le_of_ble_eq_true rfl, Nat.le_of_ble_eq_true rfl⟩) hP hD hS hJ0 hAl rfl (fun WC H locs hX hP hD hS hJ => ?_)
  refine tI (y := nI 0) (by decide +kernel) ?_
  refine lv_if_ne (tgt := 882) hx hb dL_crossings_767 (by decide) (fun h => absurd h (by decide +kernel)) (fun _ => ?_)
  refine lv_aload_n hx hb dL_crossings_770 rfl (lv_at hl 0 rfl) ?_
  refine cx0 (st1 := [.int (nI (fHrs (fnL cr_L13)))]) (va_runV (As := []) (rest := []) ⟨hx, hb, hml, hown, hts⟩ (CX_cross_ok l G hX hR (by decide) (okf_cro hR.1).1 (by decide +kernel)) (cwV 0 hts gL_crossings_X5_cross rfl rfl rfl (by decide +kernel) ⟨Nat.le_of_ble_eq_true rfl, Nat.le_of_ble_eq_true rfl⟩) (PJ.preV hE hJ.jx (xs_recv hE.1 hX (P_pre hP)) ⟨P_pre hP, D_tr (D_pre hD)⟩) rfl rfl hl.1 rfl (lv_room (Nat.le_of_ble_eq_true rfl)) dL_crossings_771 ⟨Nat.le_of_ble_eq_true rfl, Nat.le_of_ble_eq_true rfl⟩) hP hD hS hJ0 hAl rfl (fun WC H locs hX hP hD hS hJ => ?_)
  have hR := PR_sav (B' := 140000) (f' := fCrs (fnL cr_L13)) (by decide) hR (okf_mono (by decide) (okf_crs (by decide) hR.1))
  rw [cr_e13] at hX hR
  replace hX : XS G q0 (fnL cr_L14) (fnL L0) (rgS ff13 0 (fnL cr_L13)) 1 6 0 (fnL T0) (nI 0) WC := hX
  replace hR : PR 140000 (fnL cr_L14) (fnL L0) (rgS ff13 0 (fnL cr_L13)) 1 6 0 (fnL T0) (nI 0) := hR
  obtain ⟨ff14, hff14⟩ : ∃ F, F = rgS ff13 0 (fnL cr_L13) := ⟨_, rfl⟩
  rw [← hff14] at hX hR
  refine tI (y := nI 1) (by decide +kernel) ?_
  refine lv_iconst (v := nI 1) hx hb dL_crossings_774 (by decide +kernel) ?_
  refine lv_icmp_ne (tgt := 882) hx hb dL_crossings_775 (by decide) (fun h => absurd h (by decide +kernel)) (fun _ => ?_)
  refine lv_aload_n hx hb dL_crossings_778 rfl (lv_at hl 0 rfl) ?_
  refine lv_iconst (v := nI 1) hx hb dL_crossings_779 (by decide +kernel) ?_
  refine cx0 (st1 := [.int (fCnt (fnL cr_L14) 6 1)]) (va_runV (As := [.int (nI 1)]) (rest := []) ⟨hx, hb, hml, hown, hts⟩ (CX_count_ok l G hX hR (by decide) 1 (by decide +kernel)) (cwV 1 hts gL_crossings_X5_count rfl rfl rfl (by decide +kernel) ⟨Nat.le_of_ble_eq_true rfl, Nat.le_of_ble_eq_true rfl⟩) (PJ.preV hE hJ.jx (xs_recv hE.1 hX (P_pre hP)) ⟨P_pre hP, D_tr (D_pre hD)⟩) rfl rfl hl.1 rfl (lv_room (Nat.le_of_ble_eq_true rfl)) dL_crossings_780 ⟨Nat.le_of_ble_eq_true rfl, Nat.le_of_ble_eq_true rfl⟩) hP hD hS hJ0 hAl rfl (fun WC H locs hX hP hD hS hJ => ?_)
  refine tI (y := nI 1) (by decide +kernel) ?_
  refine lv_iconst (v := nI 1) hx hb dL_crossings_783 (by decide +kernel) ?_
  refine lv_icmp_ne (tgt := 882) hx hb dL_crossings_784 (by decide) (fun h => absurd h (by decide +kernel)) (fun _ => ?_)
  refine lv_aload_n hx hb dL_crossings_787 rfl (lv_at hl 0 rfl) ?_
  refine lv_iconst (v := nI 1) hx hb dL_crossings_788 (by decide +kernel) ?_
  refine cx0 (st1 := [.int ((fnL cr_L14) (fAt (fnL cr_L14) + 1))]) (va_runV (As := [.int (nI 1)]) (rest := []) ⟨hx, hb, hml, hown, hts⟩ (CX_load_ok l G hX hR (by decide) 1 (by decide +kernel) (by decide +kernel)) (cwV 1 hts gL_crossings_X5_load rfl rfl rfl (by decide +kernel) ⟨Nat.le_of_ble_eq_true rfl, Nat.le_of_ble_eq_true rfl⟩) (PJ.preV hE hJ.jx (xs_recv hE.1 hX (P_pre hP)) ⟨P_pre hP, D_tr (D_pre hD)⟩) rfl rfl hl.1 rfl (lv_room (Nat.le_of_ble_eq_true rfl)) dL_crossings_789 ⟨Nat.le_of_ble_eq_true rfl, Nat.le_of_ble_eq_true rfl⟩) hP hD hS hJ0 hAl rfl (fun WC H locs hX hP hD hS hJ => ?_)
  have hR := PR_sav (B' := 150000) (f' := fLod (fnL cr_L14) 1) (by decide) hR (okf_mono (by decide) (okf_lod hR.1 (by decide) (by decide +kernel)))
  rw [cr_e14] at hX hR
  replace hX : XS G q0 (fnL cr_L15) (fnL L0) (rgS ff14 1 (fnL cr_L14)) 2 6 0 (fnL T0) (nI 0) WC := hX
  replace hR : PR 150000 (fnL cr_L15) (fnL L0) (rgS ff14 1 (fnL cr_L14)) 2 6 0 (fnL T0) (nI 0) := hR
  obtain ⟨ff15, hff15⟩ : ∃ F, F = rgS ff14 1 (fnL cr_L14) := ⟨_, rfl⟩
  rw [← hff15] at hX hR
  refine tI (y := nI 5) (by decide +kernel) ?_
  refine lv_iconst (v := nI 5) hx hb dL_crossings_792 (by decide +kernel) ?_
  refine lv_icmp_ne (tgt := 882) hx hb dL_crossings_793 (by decide) (fun h => absurd h (by decide +kernel)) (fun _ => ?_)
  refine lv_aload_n hx hb dL_crossings_796 rfl (lv_at hl 0 rfl) ?_
  refine lv_iconst (v := nI 1) hx hb dL_crossings_797 (by decide +kernel) ?_
  refine lv_iconst (v := nI 0) hx hb dL_crossings_798 (by decide +kernel) ?_
  refine lv_iconst (v := nI 1) hx hb dL_crossings_799 (by decide +kernel) ?_
  refine cx0 (st1 := [.int ((fnL cr_L15) ((((79 + (9 * 1)) + 1) + (2 * 0)) + 1))]) (va_runV (As := [.int (nI 1), .int (nI 0), .int (nI 1)]) (rest := []) ⟨hx, hb, hml, hown, hts⟩ (CX_deck_in l G hX hR (by decide) 1 0 (by decide +kernel) (by decide +kernel) 1 (by decide +kernel) (by decide +kernel)) (cwV 3 hts gL_crossings_X5_deck rfl rfl rfl (by decide +kernel) ⟨Nat.le_of_ble_eq_true rfl, Nat.le_of_ble_eq_true rfl⟩) (PJ.preV hE hJ.jx (xs_recv hE.1 hX (P_pre hP)) ⟨P_pre hP, D_tr (D_pre hD)⟩) rfl rfl hl.1 rfl (lv_room (Nat.le_of_ble_eq_true rfl)) dL_crossings_800 ⟨Nat.le_of_ble_eq_true rfl, Nat.le_of_ble_eq_true rfl⟩) hP hD hS hJ0 hAl rfl (fun WC H locs hX hP hD hS hJ => ?_)
  refine tI (y := nI 1) (by decide +kernel) ?_
  refine lv_iconst (v := nI 1) hx hb dL_crossings_803 (by decide +kernel) ?_
  refine lv_icmp_ne (tgt := 882) hx hb dL_crossings_804 (by decide) (fun h => absurd h (by decide +kernel)) (fun _ => ?_)
  refine lv_aload_n hx hb dL_crossings_807 rfl (lv_at hl 0 rfl) ?_
  refine cx0 (st1 := [.int (unC (fnL cr_L15))]) (va_runV (As := []) (rest := []) ⟨hx, hb, hml, hown, hts⟩ (CX_unload_ok l G hX hR (by decide) ) (cwV 0 hts gL_crossings_X5_unload rfl rfl rfl (by decide +kernel) ⟨Nat.le_of_ble_eq_true rfl, Nat.le_of_ble_eq_true rfl⟩) (PJ.preV hE hJ.jx (xs_recv hE.1 hX (P_pre hP)) ⟨P_pre hP, D_tr (D_pre hD)⟩) rfl rfl hl.1 rfl (lv_room (Nat.le_of_ble_eq_true rfl)) dL_crossings_808 ⟨Nat.le_of_ble_eq_true rfl, Nat.le_of_ble_eq_true rfl⟩) hP hD hS hJ0 hAl rfl (fun WC H locs hX hP hD hS hJ => ?_)
  have hR := PR_sav (B' := 160000) (f' := fUnl (fnL cr_L15)) (by decide) hR (okf_mono (by decide) (okf_unl (by decide) hR.1))
  rw [cr_e15] at hX hR
  replace hX : XS G q0 (fnL cr_L16) (fnL L0) (rgS ff15 2 (fnL cr_L15)) 3 6 0 (fnL T0) (nI 0) WC := hX
  replace hR : PR 160000 (fnL cr_L16) (fnL L0) (rgS ff15 2 (fnL cr_L15)) 3 6 0 (fnL T0) (nI 0) := hR
  obtain ⟨ff16, hff16⟩ : ∃ F, F = rgS ff15 2 (fnL cr_L15) := ⟨_, rfl⟩
  rw [← hff16] at hX hR
  refine tI (y := nI 2) (by decide +kernel) ?_
  refine lv_iconst (v := nI 2) hx hb dL_crossings_811 (by decide +kernel) ?_
  refine lv_icmp_ne (tgt := 882) hx hb dL_crossings_812 (by decide) (fun h => absurd h (by decide +kernel)) (fun _ => ?_)
  refine lv_aload_n hx hb dL_crossings_815 rfl (lv_at hl 0 rfl) ?_
  refine lv_bipush (v := nI 10) hx hb dL_crossings_816 (by decide +kernel) ?_
  refine cx0 (st1 := [.int (fCnt (fnL cr_L16) 6 10)]) (va_runV (As := [.int (nI 10)]) (rest := []) ⟨hx, hb, hml, hown, hts⟩ (CX_count_ok l G hX hR (by decide) 10 (by decide +kernel)) (cwV 1 hts gL_crossings_X5_count rfl rfl rfl (by decide +kernel) ⟨Nat.le_of_ble_eq_true rfl, Nat.le_of_ble_eq_true rfl⟩) (PJ.preV hE hJ.jx (xs_recv hE.1 hX (P_pre hP)) ⟨P_pre hP, D_tr (D_pre hD)⟩) rfl rfl hl.1 rfl (lv_room (Nat.le_of_ble_eq_true rfl)) dL_crossings_818 ⟨Nat.le_of_ble_eq_true rfl, Nat.le_of_ble_eq_true rfl⟩) hP hD hS hJ0 hAl rfl (fun WC H locs hX hP hD hS hJ => ?_)
  refine tI (y := nI 2) (by decide +kernel) ?_
  refine lv_iconst (v := nI 2) hx hb dL_crossings_821 (by decide +kernel) ?_
  refine lv_icmp_ne (tgt := 882) hx hb dL_crossings_822 (by decide) (fun h => absurd h (by decide +kernel)) (fun _ => ?_)
  refine lv_aload_n hx hb dL_crossings_825 rfl (lv_at hl 0 rfl) ?_
  refine lv_bipush (v := nI 11) hx hb dL_crossings_826 (by decide +kernel) ?_
  refine cx0 (st1 := [.int (fCnt (fnL cr_L16) 6 11)]) (va_runV (As := [.int (nI 11)]) (rest := []) ⟨hx, hb, hml, hown, hts⟩ (CX_count_ok l G hX hR (by decide) 11 (by decide +kernel)) (cwV 1 hts gL_crossings_X5_count rfl rfl rfl (by decide +kernel) ⟨Nat.le_of_ble_eq_true rfl, Nat.le_of_ble_eq_true rfl⟩) (PJ.preV hE hJ.jx (xs_recv hE.1 hX (P_pre hP)) ⟨P_pre hP, D_tr (D_pre hD)⟩) rfl rfl hl.1 rfl (lv_room (Nat.le_of_ble_eq_true rfl)) dL_crossings_828 ⟨Nat.le_of_ble_eq_true rfl, Nat.le_of_ble_eq_true rfl⟩) hP hD hS hJ0 hAl rfl (fun WC H locs hX hP hD hS hJ => ?_)
  refine tI (y := nI 1) (by decide +kernel) ?_
  refine lv_iconst (v := nI 1) hx hb dL_crossings_831 (by decide +kernel) ?_
  refine lv_icmp_ne (tgt := 882) hx hb dL_crossings_832 (by decide) (fun h => absurd h (by decide +kernel)) (fun _ => ?_)
  refine lv_aload_n hx hb dL_crossings_835 rfl (lv_at hl 0 rfl) ?_
  refine cx0 (st1 := [.double (fCs (fnL cr_L16))]) (va_runV (As := []) (rest := []) ⟨hx, hb, hml, hown, hts⟩ (CX_carriedShare l G hX hR (by decide) ) (cwV 0 hts gL_crossings_X5_carriedShare rfl rfl rfl (by decide +kernel) ⟨Nat.le_of_ble_eq_true rfl, Nat.le_of_ble_eq_true rfl⟩) (PJ.preV hE hJ.jx (xs_recv hE.1 hX (P_pre hP)) ⟨P_pre hP, D_tr (D_pre hD)⟩) rfl rfl hl.1 rfl (lv_room (Nat.le_of_ble_eq_true rfl)) dL_crossings_836 ⟨Nat.le_of_ble_eq_true rfl, Nat.le_of_ble_eq_true rfl⟩) hP hD hS hJ0 hAl rfl (fun WC H locs hX hP hD hS hJ => ?_)
  refine lv_ldc2d (v := 4604180019048437077) hx hb hown (hts (.constantDouble RL 128 (4604180019048437077)) (by decide +kernel)) dL_crossings_839 ?_
  refine lv_dcmp hx hb dL_crossings_842 ?_
  refine tI (y := nI 0) (by decide +kernel) ?_
  refine lv_if_ne (tgt := 882) hx hb dL_crossings_843 (by decide) (fun h => absurd h (by decide +kernel)) (fun _ => ?_)
  refine lv_aload_n hx hb dL_crossings_846 rfl (lv_at hl 0 rfl) ?_
  refine lv_bipush (v := nI 9) hx hb dL_crossings_847 (by decide +kernel) ?_
  refine cx0 (st1 := [.int (fCnt (fnL cr_L16) 6 9)]) (va_runV (As := [.int (nI 9)]) (rest := []) ⟨hx, hb, hml, hown, hts⟩ (CX_count_ok l G hX hR (by decide) 9 (by decide +kernel)) (cwV 1 hts gL_crossings_X5_count rfl rfl rfl (by decide +kernel) ⟨Nat.le_of_ble_eq_true rfl, Nat.le_of_ble_eq_true rfl⟩) (PJ.preV hE hJ.jx (xs_recv hE.1 hX (P_pre hP)) ⟨P_pre hP, D_tr (D_pre hD)⟩) rfl rfl hl.1 rfl (lv_room (Nat.le_of_ble_eq_true rfl)) dL_crossings_849 ⟨Nat.le_of_ble_eq_true rfl, Nat.le_of_ble_eq_true rfl⟩) hP hD hS hJ0 hAl rfl (fun WC H locs hX hP hD hS hJ => ?_)
  refine tI (y := nI 3) (by decide +kernel) ?_
  refine lv_iconst (v := nI 3) hx hb dL_crossings_852 (by decide +kernel) ?_
  refine lv_icmp_ne (tgt := 882) hx hb dL_crossings_853 (by decide) (fun h => absurd h (by decide +kernel)) (fun _ => ?_)
  refine lv_aload_n hx hb dL_crossings_856 rfl (lv_at hl 0 rfl) ?_
  refine lv_bipush (v := nI 12) hx hb dL_crossings_857 (by decide +kernel) ?_
  refine cx0 (st1 := [.int (fCnt (fnL cr_L16) 6 12)]) (va_runV (As := [.int (nI 12)]) (rest := []) ⟨hx, hb, hml, hown, hts⟩ (CX_count_ok l G hX hR (by decide) 12 (by decide +kernel)) (cwV 1 hts gL_crossings_X5_count rfl rfl rfl (by decide +kernel) ⟨Nat.le_of_ble_eq_true rfl, Nat.le_of_ble_eq_true rfl⟩) (PJ.preV hE hJ.jx (xs_recv hE.1 hX (P_pre hP)) ⟨P_pre hP, D_tr (D_pre hD)⟩) rfl rfl hl.1 rfl (lv_room (Nat.le_of_ble_eq_true rfl)) dL_crossings_859 ⟨Nat.le_of_ble_eq_true rfl, Nat.le_of_ble_eq_true rfl⟩) hP hD hS hJ0 hAl rfl (fun WC H locs hX hP hD hS hJ => ?_)
  refine tI (y := nI 7) (by decide +kernel) ?_
  refine lv_bipush (v := nI 7) hx hb dL_crossings_862 (by decide +kernel) ?_
  refine lv_icmp_ne (tgt := 882) hx hb dL_crossings_864 (by decide) (fun h => absurd h (by decide +kernel)) (fun _ => ?_)
  exact cr_s4 hlt hL9 hX hR hP hD hS hl
set_option maxHeartbeats 8000000 in
set_option maxRecDepth 100000 in
theorem cr_s2 {p : Program} {l : Launch} {e : Env} {s : State} {m : MethodId} {below : List Frame} {meth : Method} {c : Code} {G : eG} {lo : Nat} (hlt : l.stackTraces = false) (hL : LC cL_crossings 1 wsL_crossings p s m meth c ([] : List Value).toArray G lo) {q0 : Nat} {ff4 : Nat → Nat → Int32} {WC : va_W} {H : Heap} {locs : List Loc} {ls : Array Slot} (hX : XS G q0 (fnL cr_L4) (fnL L0) ff4 0 4 0 (fnL T0) (nI 0) WC) (hR : PR 40000 (fnL cr_L4) (fnL L0) ff4 0 4 0 (fnL T0) (nI 0)) (hP : va_P G.1 vwCl (WC ++ []) H) (hD : va_D (AA s) (WC ++ [])) (hS : va_S (AA s) s.heap H locs) (hl : lv_has ls 1 [(0, .ref q0)]) : W p l e ({ frames := 10, cells := 258, slots := 1912, locals := 193 }) s m ([] : List Value).toArray below meth c H locs 209 1618 (MQ below (MV (some (.int (nI 1))) (fun _ => True) (AA s)) ([] : List Value).toArray s 258 1912 (AA s)) (F0 m 442 ls []) := by
  have hL9 := hL
  obtain ⟨hx, hb, hml, hown, hts, hE, hJ0, hF0, hr, hlocks⟩ := hL
  have hAl : ∀ q, AA s q → lo ≤ q := fun q h => Nat.le_trans hJ0.1 h
  have hA : ∀ q : Nat, s.heap.size ≤ q → AA s q := fun _ h => h
  have hJ : JB lo s _ := hJ0.S hAl hS
  refine lv_aload_n hx hb dL_crossings_442 rfl (lv_at hl 0 rfl) ?_
  refine lv_iconst (v := nI 2) hx hb dL_crossings_443 (by decide +kernel) ?_
  refine lv_iconst (v := nI 0) hx hb dL_crossings_444 (by decide +kernel) ?_
  refine cx0 (st1 := [.int (fOf (fnL cr_L4) 2 0)]) (va_runV (As := [.int (nI 2), .int (nI 0)]) (rest := []) ⟨hx, hb, hml, hown, hts⟩ (CX_section_ok l G hX hR (by decide) 2 0 (by decide +kernel) (by decide +kernel)) (cwV 2 hts gL_crossings_X5_section rfl rfl rfl (by decide +kernel) ⟨Nat.le_of_ble_eq_true rfl, Nat.le_of_ble_eq_true rfl⟩) (PJ.preV hE hJ.jx (xs_recv hE.1 hX (P_pre hP)) ⟨P_pre hP, D_tr (D_pre hD)⟩) rfl rfl hl.1 rfl (lv_room (Nat.le_of_ble_eq_true rfl)) dL_crossings_445 ⟨Nat.le_of_ble_eq_true rfl, Nat.le_of_ble_eq_true rfl⟩) hP hD hS hJ0 hAl rfl (fun WC H locs hX hP hD hS hJ => ?_)
  refine tI (y := nI 3) (by decide +kernel) ?_
  refine lv_iconst (v := nI 3) hx hb dL_crossings_448 (by decide +kernel) ?_
  refine lv_icmp_ne (tgt := 706) hx hb dL_crossings_449 (by decide) (fun h => absurd h (by decide +kernel)) (fun _ => ?_)
  refine lv_aload_n hx hb dL_crossings_452 rfl (lv_at hl 0 rfl) ?_
  refine lv_bipush (v := nI 7) hx hb dL_crossings_453 (by decide +kernel) ?_
  refine lv_iconst (v := nI 0) hx hb dL_crossings_455 (by decide +kernel) ?_
  refine cx0 (st1 := [.int (fOf (fnL cr_L4) 7 0)]) (va_runV (As := [.int (nI 7), .int (nI 0)]) (rest := []) ⟨hx, hb, hml, hown, hts⟩ (CX_section_ok l G hX hR (by decide) 7 0 (by decide +kernel) (by decide +kernel)) (cwV 2 hts gL_crossings_X5_section rfl rfl rfl (by decide +kernel) ⟨Nat.le_of_ble_eq_true rfl, Nat.le_of_ble_eq_true rfl⟩) (PJ.preV hE hJ.jx (xs_recv hE.1 hX (P_pre hP)) ⟨P_pre hP, D_tr (D_pre hD)⟩) rfl rfl hl.1 rfl (lv_room (Nat.le_of_ble_eq_true rfl)) dL_crossings_456 ⟨Nat.le_of_ble_eq_true rfl, Nat.le_of_ble_eq_true rfl⟩) hP hD hS hJ0 hAl rfl (fun WC H locs hX hP hD hS hJ => ?_)
  refine tI (y := nI 6) (by decide +kernel) ?_
  refine lv_bipush (v := nI 6) hx hb dL_crossings_459 (by decide +kernel) ?_
  refine lv_icmp_ne (tgt := 706) hx hb dL_crossings_461 (by decide) (fun h => absurd h (by decide +kernel)) (fun _ => ?_)
  refine lv_aload_n hx hb dL_crossings_464 rfl (lv_at hl 0 rfl) ?_
  refine lv_bipush (v := nI 19) hx hb dL_crossings_465 (by decide +kernel) ?_
  refine lv_iconst (v := nI 0) hx hb dL_crossings_467 (by decide +kernel) ?_
  refine cx0 (st1 := [.int (fOf (fnL cr_L4) 19 0)]) (va_runV (As := [.int (nI 19), .int (nI 0)]) (rest := []) ⟨hx, hb, hml, hown, hts⟩ (CX_section_ok l G hX hR (by decide) 19 0 (by decide +kernel) (by decide +kernel)) (cwV 2 hts gL_crossings_X5_section rfl rfl rfl (by decide +kernel) ⟨Nat.le_of_ble_eq_true rfl, Nat.le_of_ble_eq_true rfl⟩) (PJ.preV hE hJ.jx (xs_recv hE.1 hX (P_pre hP)) ⟨P_pre hP, D_tr (D_pre hD)⟩) rfl rfl hl.1 rfl (lv_room (Nat.le_of_ble_eq_true rfl)) dL_crossings_468 ⟨Nat.le_of_ble_eq_true rfl, Nat.le_of_ble_eq_true rfl⟩) hP hD hS hJ0 hAl rfl (fun WC H locs hX hP hD hS hJ => ?_)
  refine tI (y := nI 0) (by decide +kernel) ?_
  refine lv_if_ne (tgt := 706) hx hb dL_crossings_471 (by decide) (fun h => absurd h (by decide +kernel)) (fun _ => ?_)
  refine lv_aload_n hx hb dL_crossings_474 rfl (lv_at hl 0 rfl) ?_
  refine cx0 (st1 := [.int (nI (fHrs (fnL cr_L4)))]) (va_runV (As := []) (rest := []) ⟨hx, hb, hml, hown, hts⟩ (CX_cross_ok l G hX hR (by decide) (okf_cro hR.1).1 (by decide +kernel)) (cwV 0 hts gL_crossings_X5_cross rfl rfl rfl (by decide +kernel) ⟨Nat.le_of_ble_eq_true rfl, Nat.le_of_ble_eq_true rfl⟩) (PJ.preV hE hJ.jx (xs_recv hE.1 hX (P_pre hP)) ⟨P_pre hP, D_tr (D_pre hD)⟩) rfl rfl hl.1 rfl (lv_room (Nat.le_of_ble_eq_true rfl)) dL_crossings_475 ⟨Nat.le_of_ble_eq_true rfl, Nat.le_of_ble_eq_true rfl⟩) hP hD hS hJ0 hAl rfl (fun WC H locs hX hP hD hS hJ => ?_)
  have hR := PR_sav (B' := 50000) (f' := fCrs (fnL cr_L4)) (by decide) hR (okf_mono (by decide) (okf_crs (by decide) hR.1))
  rw [cr_e4] at hX hR
  replace hX : XS G q0 (fnL cr_L5) (fnL L0) (rgS ff4 4 (fnL cr_L4)) 0 5 0 (fnL T0) (nI 0) WC := hX
  replace hR : PR 50000 (fnL cr_L5) (fnL L0) (rgS ff4 4 (fnL cr_L4)) 0 5 0 (fnL T0) (nI 0) := hR
  obtain ⟨ff5, hff5⟩ : ∃ F, F = rgS ff4 4 (fnL cr_L4) := ⟨_, rfl⟩
  rw [← hff5] at hX hR
  refine tI (y := nI 1) (by decide +kernel) ?_
  refine lv_iconst (v := nI 1) hx hb dL_crossings_478 (by decide +kernel) ?_
  refine lv_icmp_ne (tgt := 706) hx hb dL_crossings_479 (by decide) (fun h => absurd h (by decide +kernel)) (fun _ => ?_)
  refine lv_aload_n hx hb dL_crossings_482 rfl (lv_at hl 0 rfl) ?_
  refine lv_iconst (v := nI 1) hx hb dL_crossings_483 (by decide +kernel) ?_
  refine cx0 (st1 := [.int (fCnt (fnL cr_L5) 5 1)]) (va_runV (As := [.int (nI 1)]) (rest := []) ⟨hx, hb, hml, hown, hts⟩ (CX_count_ok l G hX hR (by decide) 1 (by decide +kernel)) (cwV 1 hts gL_crossings_X5_count rfl rfl rfl (by decide +kernel) ⟨Nat.le_of_ble_eq_true rfl, Nat.le_of_ble_eq_true rfl⟩) (PJ.preV hE hJ.jx (xs_recv hE.1 hX (P_pre hP)) ⟨P_pre hP, D_tr (D_pre hD)⟩) rfl rfl hl.1 rfl (lv_room (Nat.le_of_ble_eq_true rfl)) dL_crossings_484 ⟨Nat.le_of_ble_eq_true rfl, Nat.le_of_ble_eq_true rfl⟩) hP hD hS hJ0 hAl rfl (fun WC H locs hX hP hD hS hJ => ?_)
  refine tI (y := nI 0) (by decide +kernel) ?_
  refine lv_if_ne (tgt := 706) hx hb dL_crossings_487 (by decide) (fun h => absurd h (by decide +kernel)) (fun _ => ?_)
  refine lv_aload_n hx hb dL_crossings_490 rfl (lv_at hl 0 rfl) ?_
  refine lv_iconst (v := nI 0) hx hb dL_crossings_491 (by decide +kernel) ?_
  refine lv_bipush (v := nI 10) hx hb dL_crossings_492 (by decide +kernel) ?_
  refine cx0 (st1 := [.int ((fnL cr_L5) (57 + (11 * 0)) + nI 1)]) (va_runV (As := [.int (nI 0), .int (nI 10)]) (rest := []) ⟨hx, hb, hml, hown, hts⟩ (CX_arrive_ok l G hX hR (by decide) 0 10 (by decide +kernel) (by decide +kernel) (by decide +kernel) (by decide +kernel)) (cwV 2 hts gL_crossings_X5_arrive rfl rfl rfl (by decide +kernel) ⟨Nat.le_of_ble_eq_true rfl, Nat.le_of_ble_eq_true rfl⟩) (PJ.preV hE hJ.jx (xs_recv hE.1 hX (P_pre hP)) ⟨P_pre hP, D_tr (D_pre hD)⟩) rfl rfl hl.1 rfl (lv_room (Nat.le_of_ble_eq_true rfl)) dL_crossings_494 ⟨Nat.le_of_ble_eq_true rfl, Nat.le_of_ble_eq_true rfl⟩) hP hD hS hJ0 hAl rfl (fun WC H locs hX hP hD hS hJ => ?_)
  have hR := PR_sav (B' := 60000) (f' := fArr (fnL cr_L5) 0 (nI 10)) (by decide) hR (okf_mono (by decide) (okf_arr hR.1 (by decide) (by decide) (by decide +kernel)))
  rw [cr_e5] at hX hR
  replace hX : XS G q0 (fnL cr_L6) (fnL L0) (rgS ff5 5 (fnL cr_L5)) 0 6 0 (fnL T0) (nI 0) WC := hX
  replace hR : PR 60000 (fnL cr_L6) (fnL L0) (rgS ff5 5 (fnL cr_L5)) 0 6 0 (fnL T0) (nI 0) := hR
  obtain ⟨ff6, hff6⟩ : ∃ F, F = rgS ff5 5 (fnL cr_L5) := ⟨_, rfl⟩
  rw [← hff6] at hX hR
  refine tI (y := nI 1) (by decide +kernel) ?_
  refine lv_iconst (v := nI 1) hx hb dL_crossings_497 (by decide +kernel) ?_
  refine lv_icmp_ne (tgt := 706) hx hb dL_crossings_498 (by decide) (fun h => absurd h (by decide +kernel)) (fun _ => ?_)
  refine lv_aload_n hx hb dL_crossings_501 rfl (lv_at hl 0 rfl) ?_
  refine lv_iconst (v := nI 0) hx hb dL_crossings_502 (by decide +kernel) ?_
  refine lv_bipush (v := nI 7) hx hb dL_crossings_503 (by decide +kernel) ?_
  refine cx0 (st1 := [.int ((fnL cr_L6) (57 + (11 * 0)) + nI 1)]) (va_runV (As := [.int (nI 0), .int (nI 7)]) (rest := []) ⟨hx, hb, hml, hown, hts⟩ (CX_arrive_ok l G hX hR (by decide) 0 7 (by decide +kernel) (by decide +kernel) (by decide +kernel) (by decide +kernel)) (cwV 2 hts gL_crossings_X5_arrive rfl rfl rfl (by decide +kernel) ⟨Nat.le_of_ble_eq_true rfl, Nat.le_of_ble_eq_true rfl⟩) (PJ.preV hE hJ.jx (xs_recv hE.1 hX (P_pre hP)) ⟨P_pre hP, D_tr (D_pre hD)⟩) rfl rfl hl.1 rfl (lv_room (Nat.le_of_ble_eq_true rfl)) dL_crossings_505 ⟨Nat.le_of_ble_eq_true rfl, Nat.le_of_ble_eq_true rfl⟩) hP hD hS hJ0 hAl rfl (fun WC H locs hX hP hD hS hJ => ?_)
  have hR := PR_sav (B' := 70000) (f' := fArr (fnL cr_L6) 0 (nI 7)) (by decide) hR (okf_mono (by decide) (okf_arr hR.1 (by decide) (by decide) (by decide +kernel)))
  rw [cr_e6] at hX hR
  replace hX : XS G q0 (fnL cr_L7) (fnL L0) (rgS ff6 0 (fnL cr_L6)) 1 6 0 (fnL T0) (nI 0) WC := hX
  replace hR : PR 70000 (fnL cr_L7) (fnL L0) (rgS ff6 0 (fnL cr_L6)) 1 6 0 (fnL T0) (nI 0) := hR
  obtain ⟨ff7, hff7⟩ : ∃ F, F = rgS ff6 0 (fnL cr_L6) := ⟨_, rfl⟩
  rw [← hff7] at hX hR
  refine tI (y := nI 2) (by decide +kernel) ?_
  refine lv_iconst (v := nI 2) hx hb dL_crossings_508 (by decide +kernel) ?_
  refine lv_icmp_ne (tgt := 706) hx hb dL_crossings_509 (by decide) (fun h => absurd h (by decide +kernel)) (fun _ => ?_)
  refine lv_aload_n hx hb dL_crossings_512 rfl (lv_at hl 0 rfl) ?_
  refine lv_iconst (v := nI 1) hx hb dL_crossings_513 (by decide +kernel) ?_
  refine lv_iconst (v := nI 5) hx hb dL_crossings_514 (by decide +kernel) ?_
  refine cx0 (st1 := [.int ((fnL cr_L7) (57 + (11 * 1)) + nI 1)]) (va_runV (As := [.int (nI 1), .int (nI 5)]) (rest := []) ⟨hx, hb, hml, hown, hts⟩ (CX_arrive_ok l G hX hR (by decide) 1 5 (by decide +kernel) (by decide +kernel) (by decide +kernel) (by decide +kernel)) (cwV 2 hts gL_crossings_X5_arrive rfl rfl rfl (by decide +kernel) ⟨Nat.le_of_ble_eq_true rfl, Nat.le_of_ble_eq_true rfl⟩) (PJ.preV hE hJ.jx (xs_recv hE.1 hX (P_pre hP)) ⟨P_pre hP, D_tr (D_pre hD)⟩) rfl rfl hl.1 rfl (lv_room (Nat.le_of_ble_eq_true rfl)) dL_crossings_515 ⟨Nat.le_of_ble_eq_true rfl, Nat.le_of_ble_eq_true rfl⟩) hP hD hS hJ0 hAl rfl (fun WC H locs hX hP hD hS hJ => ?_)
  have hR := PR_sav (B' := 80000) (f' := fArr (fnL cr_L7) 1 (nI 5)) (by decide) hR (okf_mono (by decide) (okf_arr hR.1 (by decide) (by decide) (by decide +kernel)))
  rw [cr_e7] at hX hR
  replace hX : XS G q0 (fnL cr_L8) (fnL L0) (rgS ff7 1 (fnL cr_L7)) 2 6 0 (fnL T0) (nI 0) WC := hX
  replace hR : PR 80000 (fnL cr_L8) (fnL L0) (rgS ff7 1 (fnL cr_L7)) 2 6 0 (fnL T0) (nI 0) := hR
  obtain ⟨ff8, hff8⟩ : ∃ F, F = rgS ff7 1 (fnL cr_L7) := ⟨_, rfl⟩
  rw [← hff8] at hX hR
  refine tI (y := nI 1) (by decide +kernel) ?_
  refine lv_iconst (v := nI 1) hx hb dL_crossings_518 (by decide +kernel) ?_
  refine lv_icmp_ne (tgt := 706) hx hb dL_crossings_519 (by decide) (fun h => absurd h (by decide +kernel)) (fun _ => ?_)
  refine lv_aload_n hx hb dL_crossings_522 rfl (lv_at hl 0 rfl) ?_
  refine lv_iconst (v := nI 2) hx hb dL_crossings_523 (by decide +kernel) ?_
  refine cx0 (st1 := [.int ((fnL cr_L8) 50 + nI 2)]) (va_runV (As := [.int (nI 2)]) (rest := []) ⟨hx, hb, hml, hown, hts⟩ (CX_pass_ok l G hX hR (by decide) 2 (by decide +kernel) (by decide +kernel)) (cwV 1 hts gL_crossings_X5_pass rfl rfl rfl (by decide +kernel) ⟨Nat.le_of_ble_eq_true rfl, Nat.le_of_ble_eq_true rfl⟩) (PJ.preV hE hJ.jx (xs_recv hE.1 hX (P_pre hP)) ⟨P_pre hP, D_tr (D_pre hD)⟩) rfl rfl hl.1 rfl (lv_room (Nat.le_of_ble_eq_true rfl)) dL_crossings_524 ⟨Nat.le_of_ble_eq_true rfl, Nat.le_of_ble_eq_true rfl⟩) hP hD hS hJ0 hAl rfl (fun WC H locs hX hP hD hS hJ => ?_)
  have hR := PR_sav (B' := 90000) (f' := fPas (fnL cr_L8) (nI 2)) (by decide) hR (okf_mono (by decide) (okf_pas (by decide) (by decide) hR.1))
  rw [cr_e8] at hX hR
  replace hX : XS G q0 (fnL cr_L9) (fnL L0) (rgS ff8 2 (fnL cr_L8)) 3 6 0 (fnL T0) (nI 0) WC := hX
  replace hR : PR 90000 (fnL cr_L9) (fnL L0) (rgS ff8 2 (fnL cr_L8)) 3 6 0 (fnL T0) (nI 0) := hR
  obtain ⟨ff9, hff9⟩ : ∃ F, F = rgS ff8 2 (fnL cr_L8) := ⟨_, rfl⟩
  rw [← hff9] at hX hR
  refine tI (y := nI 8) (by decide +kernel) ?_
  refine lv_bipush (v := nI 8) hx hb dL_crossings_527 (by decide +kernel) ?_
  refine lv_icmp_ne (tgt := 706) hx hb dL_crossings_529 (by decide) (fun h => absurd h (by decide +kernel)) (fun _ => ?_)
  refine lv_aload_n hx hb dL_crossings_532 rfl (lv_at hl 0 rfl) ?_
  refine lv_bipush (v := nI 12) hx hb dL_crossings_533 (by decide +kernel) ?_
  refine cx0 (st1 := [.int (fCnt (fnL cr_L9) 6 12)]) (va_runV (As := [.int (nI 12)]) (rest := []) ⟨hx, hb, hml, hown, hts⟩ (CX_count_ok l G hX hR (by decide) 12 (by decide +kernel)) (cwV 1 hts gL_crossings_X5_count rfl rfl rfl (by decide +kernel) ⟨Nat.le_of_ble_eq_true rfl, Nat.le_of_ble_eq_true rfl⟩) (PJ.preV hE hJ.jx (xs_recv hE.1 hX (P_pre hP)) ⟨P_pre hP, D_tr (D_pre hD)⟩) rfl rfl hl.1 rfl (lv_room (Nat.le_of_ble_eq_true rfl)) dL_crossings_535 ⟨Nat.le_of_ble_eq_true rfl, Nat.le_of_ble_eq_true rfl⟩) hP hD hS hJ0 hAl rfl (fun WC H locs hX hP hD hS hJ => ?_)
  refine tI (y := nI 6) (by decide +kernel) ?_
  refine lv_bipush (v := nI 6) hx hb dL_crossings_538 (by decide +kernel) ?_
  refine lv_icmp_ne (tgt := 706) hx hb dL_crossings_540 (by decide) (fun h => absurd h (by decide +kernel)) (fun _ => ?_)
  refine lv_aload_n hx hb dL_crossings_543 rfl (lv_at hl 0 rfl) ?_
  refine lv_iconst (v := nI 0) hx hb dL_crossings_544 (by decide +kernel) ?_
  refine cx0 (st1 := [.int (fWl (fnL cr_L9) 0)]) (va_runV (As := [.int (nI 0)]) (rest := []) ⟨hx, hb, hml, hown, hts⟩ (CX_ifLoaded_ok l G hX hR (by decide) 0 (by decide +kernel)) (cwV 1 hts gL_crossings_X5_ifLoaded rfl rfl rfl (by decide +kernel) ⟨Nat.le_of_ble_eq_true rfl, Nat.le_of_ble_eq_true rfl⟩) (PJ.preV hE hJ.jx (xs_recv hE.1 hX (P_pre hP)) ⟨P_pre hP, D_tr (D_pre hD)⟩) rfl rfl hl.1 rfl (lv_room (Nat.le_of_ble_eq_true rfl)) dL_crossings_545 ⟨Nat.le_of_ble_eq_true rfl, Nat.le_of_ble_eq_true rfl⟩) hP hD hS hJ0 hAl rfl (fun WC H locs hX hP hD hS hJ => ?_)
  refine tI (y := nI 60) (by decide +kernel) ?_
  refine lv_bipush (v := nI 60) hx hb dL_crossings_548 (by decide +kernel) ?_
  refine lv_icmp_ne (tgt := 706) hx hb dL_crossings_550 (by decide) (fun h => absurd h (by decide +kernel)) (fun _ => ?_)
  refine lv_aload_n hx hb dL_crossings_553 rfl (lv_at hl 0 rfl) ?_
  refine lv_iconst (v := nI 0) hx hb dL_crossings_554 (by decide +kernel) ?_
  refine cx0 (st1 := [.int ((fnL cr_L9) (fAt (fnL cr_L9) + 1))]) (va_runV (As := [.int (nI 0)]) (rest := []) ⟨hx, hb, hml, hown, hts⟩ (CX_load_ok l G hX hR (by decide) 0 (by decide +kernel) (by decide +kernel)) (cwV 1 hts gL_crossings_X5_load rfl rfl rfl (by decide +kernel) ⟨Nat.le_of_ble_eq_true rfl, Nat.le_of_ble_eq_true rfl⟩) (PJ.preV hE hJ.jx (xs_recv hE.1 hX (P_pre hP)) ⟨P_pre hP, D_tr (D_pre hD)⟩) rfl rfl hl.1 rfl (lv_room (Nat.le_of_ble_eq_true rfl)) dL_crossings_555 ⟨Nat.le_of_ble_eq_true rfl, Nat.le_of_ble_eq_true rfl⟩) hP hD hS hJ0 hAl rfl (fun WC H locs hX hP hD hS hJ => ?_)
  have hR := PR_sav (B' := 100000) (f' := fLod (fnL cr_L9) 0) (by decide) hR (okf_mono (by decide) (okf_lod hR.1 (by decide) (by decide +kernel)))
  rw [cr_e9] at hX hR
  replace hX : XS G q0 (fnL cr_L10) (fnL L0) (rgS ff9 3 (fnL cr_L9)) 4 6 0 (fnL T0) (nI 0) WC := hX
  replace hR : PR 100000 (fnL cr_L10) (fnL L0) (rgS ff9 3 (fnL cr_L9)) 4 6 0 (fnL T0) (nI 0) := hR
  obtain ⟨ff10, hff10⟩ : ∃ F, F = rgS ff9 3 (fnL cr_L9) := ⟨_, rfl⟩
  rw [← hff10] at hX hR
  refine tI (y := nI 10) (by decide +kernel) ?_
  refine lv_bipush (v := nI 10) hx hb dL_crossings_558 (by decide +kernel) ?_
  refine lv_icmp_ne (tgt := 706) hx hb dL_crossings_560 (by decide) (fun h => absurd h (by decide +kernel)) (fun _ => ?_)
  refine lv_aload_n hx hb dL_crossings_563 rfl (lv_at hl 0 rfl) ?_
  refine lv_iconst (v := nI 0) hx hb dL_crossings_564 (by decide +kernel) ?_
  refine lv_iconst (v := nI 0) hx hb dL_crossings_565 (by decide +kernel) ?_
  refine lv_iconst (v := nI 1) hx hb dL_crossings_566 (by decide +kernel) ?_
  refine cx0 (st1 := [.int ((fnL cr_L10) ((((79 + (9 * 0)) + 1) + (2 * 0)) + 1))]) (va_runV (As := [.int (nI 0), .int (nI 0), .int (nI 1)]) (rest := []) ⟨hx, hb, hml, hown, hts⟩ (CX_deck_in l G hX hR (by decide) 0 0 (by decide +kernel) (by decide +kernel) 1 (by decide +kernel) (by decide +kernel)) (cwV 3 hts gL_crossings_X5_deck rfl rfl rfl (by decide +kernel) ⟨Nat.le_of_ble_eq_true rfl, Nat.le_of_ble_eq_true rfl⟩) (PJ.preV hE hJ.jx (xs_recv hE.1 hX (P_pre hP)) ⟨P_pre hP, D_tr (D_pre hD)⟩) rfl rfl hl.1 rfl (lv_room (Nat.le_of_ble_eq_true rfl)) dL_crossings_567 ⟨Nat.le_of_ble_eq_true rfl, Nat.le_of_ble_eq_true rfl⟩) hP hD hS hJ0 hAl rfl (fun WC H locs hX hP hD hS hJ => ?_)
  refine tI (y := nI 0) (by decide +kernel) ?_
  refine lv_if_ne (tgt := 706) hx hb dL_crossings_570 (by decide) (fun h => absurd h (by decide +kernel)) (fun _ => ?_)
  refine lv_aload_n hx hb dL_crossings_573 rfl (lv_at hl 0 rfl) ?_
  refine lv_iconst (v := nI 4) hx hb dL_crossings_574 (by decide +kernel) ?_
  refine cx0 (st1 := [.int (fCnt (fnL cr_L10) 6 4)]) (va_runV (As := [.int (nI 4)]) (rest := []) ⟨hx, hb, hml, hown, hts⟩ (CX_count_ok l G hX hR (by decide) 4 (by decide +kernel)) (cwV 1 hts gL_crossings_X5_count rfl rfl rfl (by decide +kernel) ⟨Nat.le_of_ble_eq_true rfl, Nat.le_of_ble_eq_true rfl⟩) (PJ.preV hE hJ.jx (xs_recv hE.1 hX (P_pre hP)) ⟨P_pre hP, D_tr (D_pre hD)⟩) rfl rfl hl.1 rfl (lv_room (Nat.le_of_ble_eq_true rfl)) dL_crossings_575 ⟨Nat.le_of_ble_eq_true rfl, Nat.le_of_ble_eq_true rfl⟩) hP hD hS hJ0 hAl rfl (fun WC H locs hX hP hD hS hJ => ?_)
  refine tI (y := nI 10) (by decide +kernel) ?_
  refine lv_bipush (v := nI 10) hx hb dL_crossings_578 (by decide +kernel) ?_
  refine lv_icmp_ne (tgt := 706) hx hb dL_crossings_580 (by decide) (fun h => absurd h (by decide +kernel)) (fun _ => ?_)
  refine lv_aload_n hx hb dL_crossings_583 rfl (lv_at hl 0 rfl) ?_
  refine lv_iconst (v := nI 0) hx hb dL_crossings_584 (by decide +kernel) ?_
  refine lv_iconst (v := nI 2) hx hb dL_crossings_585 (by decide +kernel) ?_
  refine cx0 (st1 := [.int (fOf (fnL cr_L10) 0 2)]) (va_runV (As := [.int (nI 0), .int (nI 2)]) (rest := []) ⟨hx, hb, hml, hown, hts⟩ (CX_section_ok l G hX hR (by decide) 0 2 (by decide +kernel) (by decide +kernel)) (cwV 2 hts gL_crossings_X5_section rfl rfl rfl (by decide +kernel) ⟨Nat.le_of_ble_eq_true rfl, Nat.le_of_ble_eq_true rfl⟩) (PJ.preV hE hJ.jx (xs_recv hE.1 hX (P_pre hP)) ⟨P_pre hP, D_tr (D_pre hD)⟩) rfl rfl hl.1 rfl (lv_room (Nat.le_of_ble_eq_true rfl)) dL_crossings_586 ⟨Nat.le_of_ble_eq_true rfl, Nat.le_of_ble_eq_true rfl⟩) hP hD hS hJ0 hAl rfl (fun WC H locs hX hP hD hS hJ => ?_)
  refine tI (y := nI 33) (by decide +kernel) ?_
  refine lv_bipush (v := nI 33) hx hb dL_crossings_589 (by decide +kernel) ?_
  refine lv_icmp_ne (tgt := 706) hx hb dL_crossings_591 (by decide) (fun h => absurd h (by decide +kernel)) (fun _ => ?_)
  refine lv_aload_n hx hb dL_crossings_594 rfl (lv_at hl 0 rfl) ?_
  refine lv_bipush (v := nI 9) hx hb dL_crossings_595 (by decide +kernel) ?_
  refine lv_iconst (v := nI 2) hx hb dL_crossings_597 (by decide +kernel) ?_
  refine cx0 (st1 := [.int (fOf (fnL cr_L10) 9 2)]) (va_runV (As := [.int (nI 9), .int (nI 2)]) (rest := []) ⟨hx, hb, hml, hown, hts⟩ (CX_section_ok l G hX hR (by decide) 9 2 (by decide +kernel) (by decide +kernel)) (cwV 2 hts gL_crossings_X5_section rfl rfl rfl (by decide +kernel) ⟨Nat.le_of_ble_eq_true rfl, Nat.le_of_ble_eq_true rfl⟩) (PJ.preV hE hJ.jx (xs_recv hE.1 hX (P_pre hP)) ⟨P_pre hP, D_tr (D_pre hD)⟩) rfl rfl hl.1 rfl (lv_room (Nat.le_of_ble_eq_true rfl)) dL_crossings_598 ⟨Nat.le_of_ble_eq_true rfl, Nat.le_of_ble_eq_true rfl⟩) hP hD hS hJ0 hAl rfl (fun WC H locs hX hP hD hS hJ => ?_)
  refine tI (y := nI 60) (by decide +kernel) ?_
  refine lv_bipush (v := nI 60) hx hb dL_crossings_601 (by decide +kernel) ?_
  refine lv_icmp_ne (tgt := 706) hx hb dL_crossings_603 (by decide) (fun h => absurd h (by decide +kernel)) (fun _ => ?_)
  refine lv_aload_n hx hb dL_crossings_606 rfl (lv_at hl 0 rfl) ?_
  refine lv_iconst (v := nI 1) hx hb dL_crossings_607 (by decide +kernel) ?_
  refine cx0 (st1 := [.int (fWl (fnL cr_L10) 1)]) (va_runV (As := [.int (nI 1)]) (rest := []) ⟨hx, hb, hml, hown, hts⟩ (CX_ifLoaded_ok l G hX hR (by decide) 1 (by decide +kernel)) (cwV 1 hts gL_crossings_X5_ifLoaded rfl rfl rfl (by decide +kernel) ⟨Nat.le_of_ble_eq_true rfl, Nat.le_of_ble_eq_true rfl⟩) (PJ.preV hE hJ.jx (xs_recv hE.1 hX (P_pre hP)) ⟨P_pre hP, D_tr (D_pre hD)⟩) rfl rfl hl.1 rfl (lv_room (Nat.le_of_ble_eq_true rfl)) dL_crossings_608 ⟨Nat.le_of_ble_eq_true rfl, Nat.le_of_ble_eq_true rfl⟩) hP hD hS hJ0 hAl rfl (fun WC H locs hX hP hD hS hJ => ?_)
  refine tI (y := nI 46) (by decide +kernel) ?_
  refine lv_bipush (v := nI 46) hx hb dL_crossings_611 (by decide +kernel) ?_
  refine lv_icmp_ne (tgt := 706) hx hb dL_crossings_613 (by decide) (fun h => absurd h (by decide +kernel)) (fun _ => ?_)
  refine lv_aload_n hx hb dL_crossings_616 rfl (lv_at hl 0 rfl) ?_
  refine lv_iconst (v := nI 0) hx hb dL_crossings_617 (by decide +kernel) ?_
  refine cx0 (st1 := [.int (fWl (fnL cr_L10) 0)]) (va_runV (As := [.int (nI 0)]) (rest := []) ⟨hx, hb, hml, hown, hts⟩ (CX_ifLoaded_ok l G hX hR (by decide) 0 (by decide +kernel)) (cwV 1 hts gL_crossings_X5_ifLoaded rfl rfl rfl (by decide +kernel) ⟨Nat.le_of_ble_eq_true rfl, Nat.le_of_ble_eq_true rfl⟩) (PJ.preV hE hJ.jx (xs_recv hE.1 hX (P_pre hP)) ⟨P_pre hP, D_tr (D_pre hD)⟩) rfl rfl hl.1 rfl (lv_room (Nat.le_of_ble_eq_true rfl)) dL_crossings_618 ⟨Nat.le_of_ble_eq_true rfl, Nat.le_of_ble_eq_true rfl⟩) hP hD hS hJ0 hAl rfl (fun WC H locs hX hP hD hS hJ => ?_)
  refine tI (y := nI 88) (by decide +kernel) ?_
  refine lv_bipush (v := nI 88) hx hb dL_crossings_621 (by decide +kernel) ?_
  refine lv_icmp_ne (tgt := 706) hx hb dL_crossings_623 (by decide) (fun h => absurd h (by decide +kernel)) (fun _ => ?_)
  refine lv_aload_n hx hb dL_crossings_626 rfl (lv_at hl 0 rfl) ?_
  refine lv_iconst (v := nI 0) hx hb dL_crossings_627 (by decide +kernel) ?_
  refine cx0 (st1 := [.int (fLs (fnL cr_L10) 0)]) (va_runV (As := [.int (nI 0)]) (rest := []) ⟨hx, hb, hml, hown, hts⟩ (CX_leastList_ok l G hX hR (by decide) 0 (by decide +kernel)) (cwV 1 hts gL_crossings_X5_leastList rfl rfl rfl (by decide +kernel) ⟨Nat.le_of_ble_eq_true rfl, Nat.le_of_ble_eq_true rfl⟩) (PJ.preV hE hJ.jx (xs_recv hE.1 hX (P_pre hP)) ⟨P_pre hP, D_tr (D_pre hD)⟩) rfl rfl hl.1 rfl (lv_room (Nat.le_of_ble_eq_true rfl)) dL_crossings_628 ⟨Nat.le_of_ble_eq_true rfl, Nat.le_of_ble_eq_true rfl⟩) hP hD hS hJ0 hAl rfl (fun WC H locs hX hP hD hS hJ => ?_)
  refine tI (y := nI 10) (by decide +kernel) ?_
  refine lv_bipush (v := nI 10) hx hb dL_crossings_631 (by decide +kernel) ?_
  refine lv_icmp_ne (tgt := 706) hx hb dL_crossings_633 (by decide) (fun h => absurd h (by decide +kernel)) (fun _ => ?_)
  refine lv_aload_n hx hb dL_crossings_636 rfl (lv_at hl 0 rfl) ?_
  refine lv_iconst (v := nI 1) hx hb dL_crossings_637 (by decide +kernel) ?_
  refine cx0 (st1 := [.int (fLs (fnL cr_L10) 1)]) (va_runV (As := [.int (nI 1)]) (rest := []) ⟨hx, hb, hml, hown, hts⟩ (CX_leastList_ok l G hX hR (by decide) 1 (by decide +kernel)) (cwV 1 hts gL_crossings_X5_leastList rfl rfl rfl (by decide +kernel) ⟨Nat.le_of_ble_eq_true rfl, Nat.le_of_ble_eq_true rfl⟩) (PJ.preV hE hJ.jx (xs_recv hE.1 hX (P_pre hP)) ⟨P_pre hP, D_tr (D_pre hD)⟩) rfl rfl hl.1 rfl (lv_room (Nat.le_of_ble_eq_true rfl)) dL_crossings_638 ⟨Nat.le_of_ble_eq_true rfl, Nat.le_of_ble_eq_true rfl⟩) hP hD hS hJ0 hAl rfl (fun WC H locs hX hP hD hS hJ => ?_)
  refine tI (y := nI 3) (by decide +kernel) ?_
  refine lv_iconst (v := nI 3) hx hb dL_crossings_641 (by decide +kernel) ?_
  refine lv_icmp_ne (tgt := 706) hx hb dL_crossings_642 (by decide) (fun h => absurd h (by decide +kernel)) (fun _ => ?_)
  refine lv_aload_n hx hb dL_crossings_645 rfl (lv_at hl 0 rfl) ?_
  refine lv_iconst (v := nI 2) hx hb dL_crossings_646 (by decide +kernel) ?_
  refine cx0 (st1 := [.int (fLs (fnL cr_L10) 2)]) (va_runV (As := [.int (nI 2)]) (rest := []) ⟨hx, hb, hml, hown, hts⟩ (CX_leastList_ok l G hX hR (by decide) 2 (by decide +kernel)) (cwV 1 hts gL_crossings_X5_leastList rfl rfl rfl (by decide +kernel) ⟨Nat.le_of_ble_eq_true rfl, Nat.le_of_ble_eq_true rfl⟩) (PJ.preV hE hJ.jx (xs_recv hE.1 hX (P_pre hP)) ⟨P_pre hP, D_tr (D_pre hD)⟩) rfl rfl hl.1 rfl (lv_room (Nat.le_of_ble_eq_true rfl)) dL_crossings_647 ⟨Nat.le_of_ble_eq_true rfl, Nat.le_of_ble_eq_true rfl⟩) hP hD hS hJ0 hAl rfl (fun WC H locs hX hP hD hS hJ => ?_)
  refine tI (y := (-1)) (by decide +kernel) ?_
  refine lv_iconst (v := -1) hx hb dL_crossings_650 (by decide +kernel) ?_
  refine lv_icmp_ne (tgt := 706) hx hb dL_crossings_651 (by decide) (fun h => absurd h (by decide +kernel)) (fun _ => ?_)
  refine lv_aload_n hx hb dL_crossings_654 rfl (lv_at hl 0 rfl) ?_
  refine lv_iconst (v := nI 0) hx hb dL_crossings_655 (by decide +kernel) ?_
  refine cx0 (st1 := [.int ((fnL cr_L10) (fAt (fnL cr_L10) + 1))]) (va_runV (As := [.int (nI 0)]) (rest := []) ⟨hx, hb, hml, hown, hts⟩ (CX_load_ok l G hX hR (by decide) 0 (by decide +kernel) (by decide +kernel)) (cwV 1 hts gL_crossings_X5_load rfl rfl rfl (by decide +kernel) ⟨Nat.le_of_ble_eq_true rfl, Nat.le_of_ble_eq_true rfl⟩) (PJ.preV hE hJ.jx (xs_recv hE.1 hX (P_pre hP)) ⟨P_pre hP, D_tr (D_pre hD)⟩) rfl rfl hl.1 rfl (lv_room (Nat.le_of_ble_eq_true rfl)) dL_crossings_656 ⟨Nat.le_of_ble_eq_true rfl, Nat.le_of_ble_eq_true rfl⟩) hP hD hS hJ0 hAl rfl (fun WC H locs hX hP hD hS hJ => ?_)
  have hR := PR_sav (B' := 110000) (f' := fLod (fnL cr_L10) 0) (by decide) hR (okf_mono (by decide) (okf_lod hR.1 (by decide) (by decide +kernel)))
  rw [cr_e10] at hX hR
  replace hX : XS G q0 (fnL cr_L11) (fnL L0) (rgS ff10 4 (fnL cr_L10)) 5 6 0 (fnL T0) (nI 0) WC := hX
  replace hR : PR 110000 (fnL cr_L11) (fnL L0) (rgS ff10 4 (fnL cr_L10)) 5 6 0 (fnL T0) (nI 0) := hR
  obtain ⟨ff11, hff11⟩ : ∃ F, F = rgS ff10 4 (fnL cr_L10) := ⟨_, rfl⟩
  rw [← hff11] at hX hR
  refine tI (y := nI 7) (by decide +kernel) ?_
  refine lv_bipush (v := nI 7) hx hb dL_crossings_659 (by decide +kernel) ?_
  refine lv_icmp_ne (tgt := 706) hx hb dL_crossings_661 (by decide) (fun h => absurd h (by decide +kernel)) (fun _ => ?_)
  exact cr_s3 hlt hL9 hX hR hP hD hS hl

/-! the state at a start -/
def nwI (i j : Nat) : Int32 := if j = 49 then nI 40 else if 3 ≤ j ∧ j < 3 + i then nI 10 else if j = 2 then nI 10 else if j = 1 then nI 12 else if j = 0 then nI 300 else nI 0
def fI : Nat → Int32 := nwI 24
def crI (i j : Nat) : Int32 := if j < i then nI 10 else nI 0
theorem crI_0 : (fun _ => nI 0) = crI 0 := by funext j; exact (if_neg (Nat.not_lt_zero j)).symm
theorem crI_s (i : Nat) : upd (crI i) i (nI 10) = crI (i + 1) := by
  funext j
  unfold upd crI
  by_cases h : j = i
  · rw [if_pos h, if_pos (by omega)]
  · rw [if_neg h]
    by_cases h2 : j < i
    · rw [if_pos h2, if_pos (by omega)]
    · rw [if_neg h2, if_neg (by omega)]
theorem nw_0 : upd (upd (upd (upd (fun _ => nI 0) 0 (nI 300)) 1 (nI 12)) 2 (nI 10)) 49 (nI 40) = nwI 0 := by
  funext j
  unfold upd nwI
  by_cases h : j = 49
  · rw [if_pos h, if_pos h]
  · have h3 : ¬ (3 ≤ j ∧ j < 3 + 0) := by omega
    rw [if_neg h, if_neg h, if_neg h3]
theorem nw_s {i : Nat} (hi : i < 24) : upd (nwI i) (3 + i) (nI 10) = nwI (i + 1) := by
  funext j
  unfold upd nwI
  by_cases h : j = 49
  · rw [if_neg (by omega), if_pos h, if_pos h]
  · by_cases h2 : j = 3 + i
    · rw [if_pos h2, if_neg h, if_pos (by omega)]
    · rw [if_neg h2, if_neg h, if_neg h]
      by_cases h3 : 3 ≤ j ∧ j < 3 + i
      · rw [if_pos h3, if_pos (by omega)]
      · have h4 : ¬ (3 ≤ j ∧ j < 3 + (i + 1)) := by omega
        rw [if_neg h3, if_neg h4]
theorem P_last {D : va_G} {cl : List vw_C} {w : va_W} {x : Nat × va_E} {H : Heap} (h : va_P D cl (w ++ [x]) H) : va_P D cl [x] H := P_iff.mpr fun q hq => P_iff.mp h q (List.mem_append_right _ hq)
theorem D_last {A : Nat → Prop} {w : va_W} {x : Nat × va_E} (h : va_D A (w ++ [x])) : A x.1 := (D_iff.mp h).2 x (List.mem_append_right _ List.mem_cons_self)
theorem fI_z : nn fI 57 = 0 ∧ nn fI 68 = 0 ∧ nn fI 79 = 0 ∧ nn fI 88 = 0 := by decide +kernel
theorem fI_w : fLw fI 0 = nI 0 ∧ fLw fI 1 = nI 0 := by decide +kernel
theorem cST_I (G : eG) (A : Nat → Nat) : cST G A fI (nI 0) (nI 0) (fun _ _ => nI 0) = [(A 0, .inr (3, [.ref (A 1), .ref (A 2), .ref (A 3), .ref (A 6), .ref (A 9), .ref (A 12), .ref (A 15), .int (nI 0), .int (nI 0), .int (nI 0), .int (nI 0), .int (nI 0), .int (nI 0), .int (nI 0)])), (A 1, .inl (G.2.1, 24, .inl (fun j => fI (3 + j)))), (A 2, .inl (G.2.1, 3, .inl fI)), (A 3, .inr (1, [.ref (A 4), .ref (A 5), .int (nI 0), .int (nI 0)])), (A 4, .inl (G.2.1, 10, .inl (fun _ => nI 0))), (A 5, .inl (G.2.1, 10, .inl (fun _ => nI 0))), (A 6, .inr (1, [.ref (A 7), .ref (A 8), .int (nI 0), .int (nI 0)])), (A 7, .inl (G.2.1, 10, .inl (fun _ => nI 0))), (A 8, .inl (G.2.1, 10, .inl (fun _ => nI 0))), (A 9, .inr (1, [.ref (A 10), .ref (A 11), .int (nI 0), .int (nI 0)])), (A 10, .inl (G.2.1, 4, .inl (fun _ => nI 0))), (A 11, .inl (G.2.1, 4, .inl (fun _ => nI 0))), (A 12, .inr (1, [.ref (A 13), .ref (A 14), .int (nI 0), .int (nI 0)])), (A 13, .inl (G.2.1, 4, .inl (fun _ => nI 0))), (A 14, .inl (G.2.1, 4, .inl (fun _ => nI 0))), (A 15, .inr (4, [.ref (A 16), .int (nI 0), .int (nI 0), .int (nI 40)])), (A 16, .inl (G.2.1, 20, .inl (fun j => fI (27 + j))))] := by
  unfold cST
  rw [fI_z.1, fI_z.2.1, fI_z.2.2.1, fI_z.2.2.2, fI_w.1, fI_w.2]
  rfl
theorem okI : Okf 0 fI := by
  refine ⟨by unfold rg; decide +kernel, by unfold rg; decide +kernel, by unfold rg; decide +kernel, fun b hb => ?_, fun a ha => ?_, by unfold rg; decide +kernel⟩
  · rcases (show b = 0 ∨ b = 1 by omega) with rfl | rfl
    · exact ⟨by unfold rg; decide +kernel, fun j hj => absurd hj (by rw [show nn fI (57 + 11 * 0) = 0 from fI_z.1]; omega)⟩
    · exact ⟨by unfold rg; decide +kernel, fun j hj => absurd hj (by rw [show nn fI (57 + 11 * 1) = 0 from fI_z.2.1]; omega)⟩
  · rcases (show a = 0 ∨ a = 1 by omega) with rfl | rfl
    · exact ⟨by unfold rg; decide +kernel, fun j hj => absurd hj (by rw [show nn fI (79 + 9 * 0) = 0 from fI_z.2.2.1]; omega)⟩
    · exact ⟨by unfold rg; decide +kernel, fun j hj => absurd hj (by rw [show nn fI (79 + 9 * 1) = 0 from fI_z.2.2.2]; omega)⟩
theorem cpI (w : Nat → Nat → Int32) : CplW fI w := by
  obtain ⟨z1, z2, z3, z4⟩ := fI_z
  refine ⟨fun j hj => ?_, fun j hj => ?_, fun j hj => ?_, fun j hj => ?_⟩
  · rw [z1] at hj; exact absurd hj (Nat.not_lt_zero _)
  · rw [z2] at hj; exact absurd hj (Nat.not_lt_zero _)
  · rw [z3] at hj; exact absurd hj (Nat.not_lt_zero _)
  · rw [z4] at hj; exact absurd hj (Nat.not_lt_zero _)
theorem crI_f (j : Nat) (hj : j < 24) : crI 24 j = fI (3 + j) := by
  unfold crI fI nwI
  rw [if_pos hj, if_neg (by omega), if_pos (by omega)]
theorem fiS_f (j : Nat) (hj : j < 3) : nI (fiS j) = fI j := by
  rcases (show j = 0 ∨ j = 1 ∨ j = 2 by omega) with rfl | rfl | rfl <;> decide +kernel
theorem zz_f (j : Nat) (hj : j < 20) : nI 0 = fI (27 + j) := by
  unfold fI nwI
  by_cases h : 27 + j = 49
  · omega
  · rw [if_neg h, if_neg (by omega), if_neg (by omega), if_neg (by omega), if_neg (by omega)]

set_option maxHeartbeats 4000000 in
set_option maxRecDepth 100000 in
theorem c_X1_init_10 (l : Launch) (G : eG) (a sz : Nat) : Met l yX1_init wsX1_init ({ frames := 1, cells := 2, slots := 20, locals := 12 }) (PC [.ref a, .int (nI 10)] G (fun H => H.size = sz ∧ va_P G.1 vwCl [(a, .inr (1, [.null, .null, .int (nI 0), .int (nI 0)]))] H)) (MV none (fun H => ∃ w b, va_P G.1 vwCl [(a, .inr (1, [.ref w, .ref b, .int (nI 0), .int (nI 0)])), (w, .inl (G.2.1, 10, .inl (fun _ => nI 0))), (b, .inl (G.2.1, 10, .inl (fun _ => nI 0)))] H ∧ va_D (va_A [(a, .inr (1, [.null, .null, .int (nI 0), .int (nI 0)]))] sz) [(a, .inr (1, [.ref w, .ref b, .int (nI 0), .int (nI 0)])), (w, .inl (G.2.1, 10, .inl (fun _ => nI 0))), (b, .inl (G.2.1, 10, .inl (fun _ => nI 0)))]) (va_A [(a, .inr (1, [.null, .null, .int (nI 0), .int (nI 0)]))] sz)) 2 20 (va_A [(a, .inr (1, [.null, .null, .int (nI 0), .int (nI 0)]))] sz) := by
  refine ofB (cc := cX1_init) (maxL := 2) (ret := none) (by decide) rfl (Nat.le_of_ble_eq_true rfl) ?_
  intro p e s m below meth c hx hb hr hlocks hml hown hin hts hE hI ls hl
  replace hown : s.vm.findClass RX1 = some m.cls := hown
  have hl : lv_has ls 2 [(0, .ref a), (1, .int (nI 10))] := hl
  obtain ⟨hsz, hP⟩ := hI
  subst hsz
  have hD : va_D (va_A [(a, .inr (1, [.null, .null, .int (nI 0), .int (nI 0)]))] s.heap.size) [(a, .inr (1, [.null, .null, .int (nI 0), .int (nI 0)]))] := D_one (A_one.mpr (Or.inl rfl))
  have hA : ∀ q, s.heap.size ≤ q → va_A [(a, .inr (1, [.null, .null, .int (nI 0), .int (nI 0)]))] s.heap.size q := fun q h => Or.inr h
  obtain ⟨A, hAe⟩ : ∃ A, A = va_A [(a, .inr (1, [.null, .null, .int (nI 0), .int (nI 0)]))] s.heap.size := ⟨_, rfl⟩
  rw [← hAe] at hD hA ⊢
  have hS : va_S A s.heap s.heap [] := va_S.rf
  obtain ⟨H, hHe⟩ : ∃ H, H = s.heap := ⟨_, rfl⟩
  obtain ⟨locs, hle⟩ : ∃ q : List Loc, q = [] := ⟨_, rfl⟩
  rw [← hle] at hS ⊢
  have hP : va_P G.1 vwCl [(a, .inr (1, [.null, .null, .int (nI 0), .int (nI 0)]))] H := by rw [hHe]; exact hP
  replace hS : va_S A s.heap H locs := by rw [hHe]; exact hS
  refine tH hHe ?_
  have w_0 := hts (.methodLink RX1 3 objectInit) (by decide +kernel)
  have w_1 := hts (.instanceMethod objectInit) (by decide +kernel)
  have w_2 := hts (.code objectInit ⟨#[0xb1]⟩ 1 none) (by decide +kernel)
  have w_3 := hts (.arrayClass .int) (by decide +kernel)
  have w_4 : ∀ w ∈ u_ws RX1 TX1 4, w ∈ wsX1_init := by decide +kernel
  have w_5 := hts (.fieldLink RX1 9 "CableFerry$Line" "weights" "[I") (by decide +kernel)
  have w_6 := hts (.fieldLink RX1 15 "CableFerry$Line" "banks" "[I") (by decide +kernel)
  have w_7 := hts (.fieldLink RX1 18 "CableFerry$Line" "size" "I") (by decide +kernel)
  have w_8 := hts (.fieldLink RX1 22 "CableFerry$Line" "weight" "I") (by decide +kernel)
  refine lv_aload_n hx hb dX1_init_0 rfl (lv_at hl 0 rfl) ?_
  refine W.objInit hx hb hown w_0 w_1 w_2 rfl (hl.1.trans hml.symm) rfl dX1_init_1 (Nat.le_of_ble_eq_true rfl) (Nat.le_of_ble_eq_true rfl) ?_
  refine W.eq (g2 := F0 m 4 ls []) rfl ?_
  refine lv_aload_n hx hb dX1_init_4 rfl (lv_at hl 0 rfl) ?_
  refine lv_iload_n hx hb dX1_init_5 rfl (lv_at hl 1 rfl) ?_
  refine va_newa (atype := .int) (ty := .int) (N' := 10) (a0 := (10, .inl (fun _ => nI 0))) hx hb w_3 rfl hE.1 hP hD hS hA (fun _ => rfl) (nI_pos (by decide)) (nI_clamp (by decide)) (by decide) (Nat.le_of_ble_eq_true rfl) (Nat.le_of_ble_eq_true rfl) dX1_init_6 (fun q6 cA H hN hP hD hS => ?_)
  obtain rfl := naI hE.1 hN
  clear hN
  refine W.widen (k := 1) (n := 10) (Nat.le_of_ble_eq_true rfl) (Nat.le_of_ble_eq_true rfl) ?_
  have hP : va_P G.1 vwCl [(a, .inr (1, [.null, .null, .int (nI 0), .int (nI 0)])), (q6, .inl (G.2.1, 10, .inl (fun _ => nI 0)))] H := hP
  have hD : va_D A [(a, .inr (1, [.null, .null, .int (nI 0), .int (nI 0)])), (q6, .inl (G.2.1, 10, .inl (fun _ => nI 0)))] := hD
  refine va_putF (D := G.1) (ci := 1) (v := .ref q6) (ty := .array .int) (C := RX1) (T := TX1) (N := 4) hx hb hts w_4 tyX1 tyX1_ok nmX1 hown hE.1 hP hD hS 0 rfl rfl 0 (by decide) w_5 (fun _ h9 => h9) rfl hin rfl (by decide +kernel) rfl rfl (Nat.le_of_ble_eq_true rfl) dX1_init_8 (fun H locs hP hD hS => ?_)
  have hP : va_P G.1 vwCl [(a, .inr (1, [.ref q6, .null, .int (nI 0), .int (nI 0)])), (q6, .inl (G.2.1, 10, .inl (fun _ => nI 0)))] H := hP
  have hD : va_D A [(a, .inr (1, [.ref q6, .null, .int (nI 0), .int (nI 0)])), (q6, .inl (G.2.1, 10, .inl (fun _ => nI 0)))] := hD
  refine lv_aload_n hx hb dX1_init_11 rfl (lv_at hl 0 rfl) ?_
  refine lv_iload_n hx hb dX1_init_12 rfl (lv_at hl 1 rfl) ?_
  refine va_newa (atype := .int) (ty := .int) (N' := 10) (a0 := (10, .inl (fun _ => nI 0))) hx hb w_3 rfl hE.1 hP hD hS hA (fun _ => rfl) (nI_pos (by decide)) (nI_clamp (by decide)) (by decide) (Nat.le_of_ble_eq_true rfl) (Nat.le_of_ble_eq_true rfl) dX1_init_13 (fun q13 cA H hN hP hD hS => ?_)
  obtain rfl := naI hE.1 hN
  clear hN
  refine W.widen (k := 2) (n := 20) (Nat.le_of_ble_eq_true rfl) (Nat.le_of_ble_eq_true rfl) ?_
  have hP : va_P G.1 vwCl [(a, .inr (1, [.ref q6, .null, .int (nI 0), .int (nI 0)])), (q6, .inl (G.2.1, 10, .inl (fun _ => nI 0))), (q13, .inl (G.2.1, 10, .inl (fun _ => nI 0)))] H := hP
  have hD : va_D A [(a, .inr (1, [.ref q6, .null, .int (nI 0), .int (nI 0)])), (q6, .inl (G.2.1, 10, .inl (fun _ => nI 0))), (q13, .inl (G.2.1, 10, .inl (fun _ => nI 0)))] := hD
  refine va_putF (D := G.1) (ci := 1) (v := .ref q13) (ty := .array .int) (C := RX1) (T := TX1) (N := 4) hx hb hts w_4 tyX1 tyX1_ok nmX1 hown hE.1 hP hD hS 0 rfl rfl 1 (by decide) w_6 (fun _ h9 => h9) rfl hin rfl (by decide +kernel) rfl rfl (Nat.le_of_ble_eq_true rfl) dX1_init_15 (fun H locs hP hD hS => ?_)
  have hP : va_P G.1 vwCl [(a, .inr (1, [.ref q6, .ref q13, .int (nI 0), .int (nI 0)])), (q6, .inl (G.2.1, 10, .inl (fun _ => nI 0))), (q13, .inl (G.2.1, 10, .inl (fun _ => nI 0)))] H := hP
  have hD : va_D A [(a, .inr (1, [.ref q6, .ref q13, .int (nI 0), .int (nI 0)])), (q6, .inl (G.2.1, 10, .inl (fun _ => nI 0))), (q13, .inl (G.2.1, 10, .inl (fun _ => nI 0)))] := hD
  refine lv_aload_n hx hb dX1_init_18 rfl (lv_at hl 0 rfl) ?_
  refine lv_iconst (v := nI 0) hx hb dX1_init_19 (by decide +kernel) ?_
  refine va_put (D := G.1) (ci := 1) (v := .int (nI 0)) (ty := .int) (C := RX1) (T := TX1) (N := 4) hx hb hts w_4 tyX1 tyX1_ok nmX1 hown hE.1 hP hD hS 0 rfl rfl 2 (by decide) w_7 (fun _ h9 => h9) rfl (by decide +kernel) rfl rfl (Nat.le_of_ble_eq_true rfl) dX1_init_20 (fun H locs hP hD hS => ?_)
  have hP : va_P G.1 vwCl [(a, .inr (1, [.ref q6, .ref q13, .int (nI 0), .int (nI 0)])), (q6, .inl (G.2.1, 10, .inl (fun _ => nI 0))), (q13, .inl (G.2.1, 10, .inl (fun _ => nI 0)))] H := hP
  have hD : va_D A [(a, .inr (1, [.ref q6, .ref q13, .int (nI 0), .int (nI 0)])), (q6, .inl (G.2.1, 10, .inl (fun _ => nI 0))), (q13, .inl (G.2.1, 10, .inl (fun _ => nI 0)))] := hD
  refine lv_aload_n hx hb dX1_init_23 rfl (lv_at hl 0 rfl) ?_
  refine lv_iconst (v := nI 0) hx hb dX1_init_24 (by decide +kernel) ?_
  refine va_put (D := G.1) (ci := 1) (v := .int (nI 0)) (ty := .int) (C := RX1) (T := TX1) (N := 4) hx hb hts w_4 tyX1 tyX1_ok nmX1 hown hE.1 hP hD hS 0 rfl rfl 3 (by decide) w_8 (fun _ h9 => h9) rfl (by decide +kernel) rfl rfl (Nat.le_of_ble_eq_true rfl) dX1_init_25 (fun H locs hP hD hS => ?_)
  have hP : va_P G.1 vwCl [(a, .inr (1, [.ref q6, .ref q13, .int (nI 0), .int (nI 0)])), (q6, .inl (G.2.1, 10, .inl (fun _ => nI 0))), (q13, .inl (G.2.1, 10, .inl (fun _ => nI 0)))] H := hP
  have hD : va_D A [(a, .inr (1, [.ref q6, .ref q13, .int (nI 0), .int (nI 0)])), (q6, .inl (G.2.1, 10, .inl (fun _ => nI 0))), (q13, .inl (G.2.1, 10, .inl (fun _ => nI 0)))] := hD
  refine W.widen (k := 2) (n := 20) (Nat.le_of_ble_eq_true rfl) (Nat.le_of_ble_eq_true rfl) ?_
  exact W.vret hx hb hr (fun t ht hW => ⟨rfl, by rw [ht]; exact ⟨_, _, hP, hD⟩, hS.F ht⟩) hS.2.2 dX1_init_28
set_option maxHeartbeats 4000000 in
set_option maxRecDepth 100000 in
theorem c_X1_init_4 (l : Launch) (G : eG) (a sz : Nat) : Met l yX1_init wsX1_init ({ frames := 1, cells := 2, slots := 8, locals := 12 }) (PC [.ref a, .int (nI 4)] G (fun H => H.size = sz ∧ va_P G.1 vwCl [(a, .inr (1, [.null, .null, .int (nI 0), .int (nI 0)]))] H)) (MV none (fun H => ∃ w b, va_P G.1 vwCl [(a, .inr (1, [.ref w, .ref b, .int (nI 0), .int (nI 0)])), (w, .inl (G.2.1, 4, .inl (fun _ => nI 0))), (b, .inl (G.2.1, 4, .inl (fun _ => nI 0)))] H ∧ va_D (va_A [(a, .inr (1, [.null, .null, .int (nI 0), .int (nI 0)]))] sz) [(a, .inr (1, [.ref w, .ref b, .int (nI 0), .int (nI 0)])), (w, .inl (G.2.1, 4, .inl (fun _ => nI 0))), (b, .inl (G.2.1, 4, .inl (fun _ => nI 0)))]) (va_A [(a, .inr (1, [.null, .null, .int (nI 0), .int (nI 0)]))] sz)) 2 8 (va_A [(a, .inr (1, [.null, .null, .int (nI 0), .int (nI 0)]))] sz) := by
  refine ofB (cc := cX1_init) (maxL := 2) (ret := none) (by decide) rfl (Nat.le_of_ble_eq_true rfl) ?_
  intro p e s m below meth c hx hb hr hlocks hml hown hin hts hE hI ls hl
  replace hown : s.vm.findClass RX1 = some m.cls := hown
  have hl : lv_has ls 2 [(0, .ref a), (1, .int (nI 4))] := hl
  obtain ⟨hsz, hP⟩ := hI
  subst hsz
  have hD : va_D (va_A [(a, .inr (1, [.null, .null, .int (nI 0), .int (nI 0)]))] s.heap.size) [(a, .inr (1, [.null, .null, .int (nI 0), .int (nI 0)]))] := D_one (A_one.mpr (Or.inl rfl))
  have hA : ∀ q, s.heap.size ≤ q → va_A [(a, .inr (1, [.null, .null, .int (nI 0), .int (nI 0)]))] s.heap.size q := fun q h => Or.inr h
  obtain ⟨A, hAe⟩ : ∃ A, A = va_A [(a, .inr (1, [.null, .null, .int (nI 0), .int (nI 0)]))] s.heap.size := ⟨_, rfl⟩
  rw [← hAe] at hD hA ⊢
  have hS : va_S A s.heap s.heap [] := va_S.rf
  obtain ⟨H, hHe⟩ : ∃ H, H = s.heap := ⟨_, rfl⟩
  obtain ⟨locs, hle⟩ : ∃ q : List Loc, q = [] := ⟨_, rfl⟩
  rw [← hle] at hS ⊢
  have hP : va_P G.1 vwCl [(a, .inr (1, [.null, .null, .int (nI 0), .int (nI 0)]))] H := by rw [hHe]; exact hP
  replace hS : va_S A s.heap H locs := by rw [hHe]; exact hS
  refine tH hHe ?_
  have w_0 := hts (.methodLink RX1 3 objectInit) (by decide +kernel)
  have w_1 := hts (.instanceMethod objectInit) (by decide +kernel)
  have w_2 := hts (.code objectInit ⟨#[0xb1]⟩ 1 none) (by decide +kernel)
  have w_3 := hts (.arrayClass .int) (by decide +kernel)
  have w_4 : ∀ w ∈ u_ws RX1 TX1 4, w ∈ wsX1_init := by decide +kernel
  have w_5 := hts (.fieldLink RX1 9 "CableFerry$Line" "weights" "[I") (by decide +kernel)
  have w_6 := hts (.fieldLink RX1 15 "CableFerry$Line" "banks" "[I") (by decide +kernel)
  have w_7 := hts (.fieldLink RX1 18 "CableFerry$Line" "size" "I") (by decide +kernel)
  have w_8 := hts (.fieldLink RX1 22 "CableFerry$Line" "weight" "I") (by decide +kernel)
  refine lv_aload_n hx hb dX1_init_0 rfl (lv_at hl 0 rfl) ?_
  refine W.objInit hx hb hown w_0 w_1 w_2 rfl (hl.1.trans hml.symm) rfl dX1_init_1 (Nat.le_of_ble_eq_true rfl) (Nat.le_of_ble_eq_true rfl) ?_
  refine W.eq (g2 := F0 m 4 ls []) rfl ?_
  refine lv_aload_n hx hb dX1_init_4 rfl (lv_at hl 0 rfl) ?_
  refine lv_iload_n hx hb dX1_init_5 rfl (lv_at hl 1 rfl) ?_
  refine va_newa (atype := .int) (ty := .int) (N' := 4) (a0 := (4, .inl (fun _ => nI 0))) hx hb w_3 rfl hE.1 hP hD hS hA (fun _ => rfl) (nI_pos (by decide)) (nI_clamp (by decide)) (by decide) (Nat.le_of_ble_eq_true rfl) (Nat.le_of_ble_eq_true rfl) dX1_init_6 (fun q6 cA H hN hP hD hS => ?_)
  obtain rfl := naI hE.1 hN
  clear hN
  refine W.widen (k := 1) (n := 4) (Nat.le_of_ble_eq_true rfl) (Nat.le_of_ble_eq_true rfl) ?_
  have hP : va_P G.1 vwCl [(a, .inr (1, [.null, .null, .int (nI 0), .int (nI 0)])), (q6, .inl (G.2.1, 4, .inl (fun _ => nI 0)))] H := hP
  have hD : va_D A [(a, .inr (1, [.null, .null, .int (nI 0), .int (nI 0)])), (q6, .inl (G.2.1, 4, .inl (fun _ => nI 0)))] := hD
  refine va_putF (D := G.1) (ci := 1) (v := .ref q6) (ty := .array .int) (C := RX1) (T := TX1) (N := 4) hx hb hts w_4 tyX1 tyX1_ok nmX1 hown hE.1 hP hD hS 0 rfl rfl 0 (by decide) w_5 (fun _ h9 => h9) rfl hin rfl (by decide +kernel) rfl rfl (Nat.le_of_ble_eq_true rfl) dX1_init_8 (fun H locs hP hD hS => ?_)
  have hP : va_P G.1 vwCl [(a, .inr (1, [.ref q6, .null, .int (nI 0), .int (nI 0)])), (q6, .inl (G.2.1, 4, .inl (fun _ => nI 0)))] H := hP
  have hD : va_D A [(a, .inr (1, [.ref q6, .null, .int (nI 0), .int (nI 0)])), (q6, .inl (G.2.1, 4, .inl (fun _ => nI 0)))] := hD
  refine lv_aload_n hx hb dX1_init_11 rfl (lv_at hl 0 rfl) ?_
  refine lv_iload_n hx hb dX1_init_12 rfl (lv_at hl 1 rfl) ?_
  refine va_newa (atype := .int) (ty := .int) (N' := 4) (a0 := (4, .inl (fun _ => nI 0))) hx hb w_3 rfl hE.1 hP hD hS hA (fun _ => rfl) (nI_pos (by decide)) (nI_clamp (by decide)) (by decide) (Nat.le_of_ble_eq_true rfl) (Nat.le_of_ble_eq_true rfl) dX1_init_13 (fun q13 cA H hN hP hD hS => ?_)
  obtain rfl := naI hE.1 hN
  clear hN
  refine W.widen (k := 2) (n := 8) (Nat.le_of_ble_eq_true rfl) (Nat.le_of_ble_eq_true rfl) ?_
  have hP : va_P G.1 vwCl [(a, .inr (1, [.ref q6, .null, .int (nI 0), .int (nI 0)])), (q6, .inl (G.2.1, 4, .inl (fun _ => nI 0))), (q13, .inl (G.2.1, 4, .inl (fun _ => nI 0)))] H := hP
  have hD : va_D A [(a, .inr (1, [.ref q6, .null, .int (nI 0), .int (nI 0)])), (q6, .inl (G.2.1, 4, .inl (fun _ => nI 0))), (q13, .inl (G.2.1, 4, .inl (fun _ => nI 0)))] := hD
  refine va_putF (D := G.1) (ci := 1) (v := .ref q13) (ty := .array .int) (C := RX1) (T := TX1) (N := 4) hx hb hts w_4 tyX1 tyX1_ok nmX1 hown hE.1 hP hD hS 0 rfl rfl 1 (by decide) w_6 (fun _ h9 => h9) rfl hin rfl (by decide +kernel) rfl rfl (Nat.le_of_ble_eq_true rfl) dX1_init_15 (fun H locs hP hD hS => ?_)
  have hP : va_P G.1 vwCl [(a, .inr (1, [.ref q6, .ref q13, .int (nI 0), .int (nI 0)])), (q6, .inl (G.2.1, 4, .inl (fun _ => nI 0))), (q13, .inl (G.2.1, 4, .inl (fun _ => nI 0)))] H := hP
  have hD : va_D A [(a, .inr (1, [.ref q6, .ref q13, .int (nI 0), .int (nI 0)])), (q6, .inl (G.2.1, 4, .inl (fun _ => nI 0))), (q13, .inl (G.2.1, 4, .inl (fun _ => nI 0)))] := hD
  refine lv_aload_n hx hb dX1_init_18 rfl (lv_at hl 0 rfl) ?_
  refine lv_iconst (v := nI 0) hx hb dX1_init_19 (by decide +kernel) ?_
  refine va_put (D := G.1) (ci := 1) (v := .int (nI 0)) (ty := .int) (C := RX1) (T := TX1) (N := 4) hx hb hts w_4 tyX1 tyX1_ok nmX1 hown hE.1 hP hD hS 0 rfl rfl 2 (by decide) w_7 (fun _ h9 => h9) rfl (by decide +kernel) rfl rfl (Nat.le_of_ble_eq_true rfl) dX1_init_20 (fun H locs hP hD hS => ?_)
  have hP : va_P G.1 vwCl [(a, .inr (1, [.ref q6, .ref q13, .int (nI 0), .int (nI 0)])), (q6, .inl (G.2.1, 4, .inl (fun _ => nI 0))), (q13, .inl (G.2.1, 4, .inl (fun _ => nI 0)))] H := hP
  have hD : va_D A [(a, .inr (1, [.ref q6, .ref q13, .int (nI 0), .int (nI 0)])), (q6, .inl (G.2.1, 4, .inl (fun _ => nI 0))), (q13, .inl (G.2.1, 4, .inl (fun _ => nI 0)))] := hD
  refine lv_aload_n hx hb dX1_init_23 rfl (lv_at hl 0 rfl) ?_
  refine lv_iconst (v := nI 0) hx hb dX1_init_24 (by decide +kernel) ?_
  refine va_put (D := G.1) (ci := 1) (v := .int (nI 0)) (ty := .int) (C := RX1) (T := TX1) (N := 4) hx hb hts w_4 tyX1 tyX1_ok nmX1 hown hE.1 hP hD hS 0 rfl rfl 3 (by decide) w_8 (fun _ h9 => h9) rfl (by decide +kernel) rfl rfl (Nat.le_of_ble_eq_true rfl) dX1_init_25 (fun H locs hP hD hS => ?_)
  have hP : va_P G.1 vwCl [(a, .inr (1, [.ref q6, .ref q13, .int (nI 0), .int (nI 0)])), (q6, .inl (G.2.1, 4, .inl (fun _ => nI 0))), (q13, .inl (G.2.1, 4, .inl (fun _ => nI 0)))] H := hP
  have hD : va_D A [(a, .inr (1, [.ref q6, .ref q13, .int (nI 0), .int (nI 0)])), (q6, .inl (G.2.1, 4, .inl (fun _ => nI 0))), (q13, .inl (G.2.1, 4, .inl (fun _ => nI 0)))] := hD
  refine W.widen (k := 2) (n := 8) (Nat.le_of_ble_eq_true rfl) (Nat.le_of_ble_eq_true rfl) ?_
  exact W.vret hx hb hr (fun t ht hW => ⟨rfl, by rw [ht]; exact ⟨_, _, hP, hD⟩, hS.F ht⟩) hS.2.2 dX1_init_28
set_option maxHeartbeats 4000000 in
set_option maxRecDepth 100000 in
theorem c_X2_init (l : Launch) (G : eG) (oa sz : Nat) : Met l yX2_init wsX2_init ({ frames := 1, cells := 1, slots := 60, locals := 12 }) (PC [.ref oa] G (fun H => H.size = sz ∧ va_P G.1 vwCl [(oa, .inr (2, [.null, .int (nI 0), .int (nI 0), .int (nI 0)]))] H)) (MV none (fun H => ∃ co, va_P G.1 vwCl [(oa, .inr (2, [.ref co, .int (nI 0), .int (nI 0), .int (nI 0)])), (co, .inl (G.2.1, 60, .inl (fun _ => nI 0)))] H ∧ va_D (va_A [(oa, .inr (2, [.null, .int (nI 0), .int (nI 0), .int (nI 0)]))] sz) [(oa, .inr (2, [.ref co, .int (nI 0), .int (nI 0), .int (nI 0)])), (co, .inl (G.2.1, 60, .inl (fun _ => nI 0)))]) (va_A [(oa, .inr (2, [.null, .int (nI 0), .int (nI 0), .int (nI 0)]))] sz)) 1 60 (va_A [(oa, .inr (2, [.null, .int (nI 0), .int (nI 0), .int (nI 0)]))] sz) := by
  refine ofB (cc := cX2_init) (maxL := 1) (ret := none) (by decide) rfl (Nat.le_of_ble_eq_true rfl) ?_
  intro p e s m below meth c hx hb hr hlocks hml hown hin hts hE hI ls hl
  replace hown : s.vm.findClass RX2 = some m.cls := hown
  have hl : lv_has ls 1 [(0, .ref oa)] := hl
  obtain ⟨hsz, hP⟩ := hI
  subst hsz
  have hD : va_D (va_A [(oa, .inr (2, [.null, .int (nI 0), .int (nI 0), .int (nI 0)]))] s.heap.size) [(oa, .inr (2, [.null, .int (nI 0), .int (nI 0), .int (nI 0)]))] := D_one (A_one.mpr (Or.inl rfl))
  have hA : ∀ q, s.heap.size ≤ q → va_A [(oa, .inr (2, [.null, .int (nI 0), .int (nI 0), .int (nI 0)]))] s.heap.size q := fun q h => Or.inr h
  obtain ⟨A, hAe⟩ : ∃ A, A = va_A [(oa, .inr (2, [.null, .int (nI 0), .int (nI 0), .int (nI 0)]))] s.heap.size := ⟨_, rfl⟩
  rw [← hAe] at hD hA ⊢
  have hS : va_S A s.heap s.heap [] := va_S.rf
  obtain ⟨H, hHe⟩ : ∃ H, H = s.heap := ⟨_, rfl⟩
  obtain ⟨locs, hle⟩ : ∃ q : List Loc, q = [] := ⟨_, rfl⟩
  rw [← hle] at hS ⊢
  have hP : va_P G.1 vwCl [(oa, .inr (2, [.null, .int (nI 0), .int (nI 0), .int (nI 0)]))] H := by rw [hHe]; exact hP
  replace hS : va_S A s.heap H locs := by rw [hHe]; exact hS
  refine tH hHe ?_
  have w_0 := hts (.methodLink RX2 3 objectInit) (by decide +kernel)
  have w_1 := hts (.instanceMethod objectInit) (by decide +kernel)
  have w_2 := hts (.code objectInit ⟨#[0xb1]⟩ 1 none) (by decide +kernel)
  have w_3 := hts (.arrayClass .int) (by decide +kernel)
  have w_4 : ∀ w ∈ u_ws RX2 TX2 4, w ∈ wsX2_init := by decide +kernel
  have w_5 := hts (.fieldLink RX2 9 "CableFerry$Orders" "codes" "[I") (by decide +kernel)
  have w_6 := hts (.fieldLink RX2 15 "CableFerry$Orders" "length" "I") (by decide +kernel)
  have w_7 := hts (.fieldLink RX2 19 "CableFerry$Orders" "right" "I") (by decide +kernel)
  have w_8 := hts (.fieldLink RX2 22 "CableFerry$Orders" "end" "I") (by decide +kernel)
  refine lv_aload_n hx hb dX2_init_0 rfl (lv_at hl 0 rfl) ?_
  refine W.objInit hx hb hown w_0 w_1 w_2 rfl (hl.1.trans hml.symm) rfl dX2_init_1 (Nat.le_of_ble_eq_true rfl) (Nat.le_of_ble_eq_true rfl) ?_
  refine W.eq (g2 := F0 m 4 ls []) rfl ?_
  refine lv_aload_n hx hb dX2_init_4 rfl (lv_at hl 0 rfl) ?_
  refine lv_bipush (v := nI 60) hx hb dX2_init_5 (by decide +kernel) ?_
  refine va_newa (atype := .int) (ty := .int) (N' := 60) (a0 := (60, .inl (fun _ => nI 0))) hx hb w_3 rfl hE.1 hP hD hS hA (fun _ => rfl) (nI_pos (by decide)) (nI_clamp (by decide)) (by decide) (Nat.le_of_ble_eq_true rfl) (Nat.le_of_ble_eq_true rfl) dX2_init_7 (fun q7 cA H hN hP hD hS => ?_)
  obtain rfl := naI hE.1 hN
  clear hN
  refine W.widen (k := 1) (n := 60) (Nat.le_of_ble_eq_true rfl) (Nat.le_of_ble_eq_true rfl) ?_
  have hP : va_P G.1 vwCl [(oa, .inr (2, [.null, .int (nI 0), .int (nI 0), .int (nI 0)])), (q7, .inl (G.2.1, 60, .inl (fun _ => nI 0)))] H := hP
  have hD : va_D A [(oa, .inr (2, [.null, .int (nI 0), .int (nI 0), .int (nI 0)])), (q7, .inl (G.2.1, 60, .inl (fun _ => nI 0)))] := hD
  refine va_putF (D := G.1) (ci := 2) (v := .ref q7) (ty := .array .int) (C := RX2) (T := TX2) (N := 4) hx hb hts w_4 tyX2 tyX2_ok nmX2 hown hE.1 hP hD hS 0 rfl rfl 0 (by decide) w_5 (fun _ h9 => h9) rfl hin rfl (by decide +kernel) rfl rfl (Nat.le_of_ble_eq_true rfl) dX2_init_9 (fun H locs hP hD hS => ?_)
  have hP : va_P G.1 vwCl [(oa, .inr (2, [.ref q7, .int (nI 0), .int (nI 0), .int (nI 0)])), (q7, .inl (G.2.1, 60, .inl (fun _ => nI 0)))] H := hP
  have hD : va_D A [(oa, .inr (2, [.ref q7, .int (nI 0), .int (nI 0), .int (nI 0)])), (q7, .inl (G.2.1, 60, .inl (fun _ => nI 0)))] := hD
  refine lv_aload_n hx hb dX2_init_12 rfl (lv_at hl 0 rfl) ?_
  refine lv_iconst (v := nI 0) hx hb dX2_init_13 (by decide +kernel) ?_
  refine va_put (D := G.1) (ci := 2) (v := .int (nI 0)) (ty := .int) (C := RX2) (T := TX2) (N := 4) hx hb hts w_4 tyX2 tyX2_ok nmX2 hown hE.1 hP hD hS 0 rfl rfl 1 (by decide) w_6 (fun _ h9 => h9) rfl (by decide +kernel) rfl rfl (Nat.le_of_ble_eq_true rfl) dX2_init_14 (fun H locs hP hD hS => ?_)
  have hP : va_P G.1 vwCl [(oa, .inr (2, [.ref q7, .int (nI 0), .int (nI 0), .int (nI 0)])), (q7, .inl (G.2.1, 60, .inl (fun _ => nI 0)))] H := hP
  have hD : va_D A [(oa, .inr (2, [.ref q7, .int (nI 0), .int (nI 0), .int (nI 0)])), (q7, .inl (G.2.1, 60, .inl (fun _ => nI 0)))] := hD
  refine lv_aload_n hx hb dX2_init_17 rfl (lv_at hl 0 rfl) ?_
  refine lv_iconst (v := nI 0) hx hb dX2_init_18 (by decide +kernel) ?_
  refine va_put (D := G.1) (ci := 2) (v := .int (nI 0)) (ty := .int) (C := RX2) (T := TX2) (N := 4) hx hb hts w_4 tyX2 tyX2_ok nmX2 hown hE.1 hP hD hS 0 rfl rfl 2 (by decide) w_7 (fun _ h9 => h9) rfl (by decide +kernel) rfl rfl (Nat.le_of_ble_eq_true rfl) dX2_init_19 (fun H locs hP hD hS => ?_)
  have hP : va_P G.1 vwCl [(oa, .inr (2, [.ref q7, .int (nI 0), .int (nI 0), .int (nI 0)])), (q7, .inl (G.2.1, 60, .inl (fun _ => nI 0)))] H := hP
  have hD : va_D A [(oa, .inr (2, [.ref q7, .int (nI 0), .int (nI 0), .int (nI 0)])), (q7, .inl (G.2.1, 60, .inl (fun _ => nI 0)))] := hD
  refine lv_aload_n hx hb dX2_init_22 rfl (lv_at hl 0 rfl) ?_
  refine lv_iconst (v := nI 0) hx hb dX2_init_23 (by decide +kernel) ?_
  refine va_put (D := G.1) (ci := 2) (v := .int (nI 0)) (ty := .int) (C := RX2) (T := TX2) (N := 4) hx hb hts w_4 tyX2 tyX2_ok nmX2 hown hE.1 hP hD hS 0 rfl rfl 3 (by decide) w_8 (fun _ h9 => h9) rfl (by decide +kernel) rfl rfl (Nat.le_of_ble_eq_true rfl) dX2_init_24 (fun H locs hP hD hS => ?_)
  have hP : va_P G.1 vwCl [(oa, .inr (2, [.ref q7, .int (nI 0), .int (nI 0), .int (nI 0)])), (q7, .inl (G.2.1, 60, .inl (fun _ => nI 0)))] H := hP
  have hD : va_D A [(oa, .inr (2, [.ref q7, .int (nI 0), .int (nI 0), .int (nI 0)])), (q7, .inl (G.2.1, 60, .inl (fun _ => nI 0)))] := hD
  refine W.widen (k := 1) (n := 60) (Nat.le_of_ble_eq_true rfl) (Nat.le_of_ble_eq_true rfl) ?_
  exact W.vret hx hb hr (fun t ht hW => ⟨rfl, by rw [ht]; exact ⟨_, hP, hD⟩, hS.F ht⟩) hS.2.2 dX2_init_27
set_option maxHeartbeats 4000000 in
set_option maxRecDepth 100000 in
theorem c_X4_init (l : Launch) (G : eG) (wi sz : Nat) : Met l yX4_init wsX4_init ({ frames := 1, cells := 1, slots := 20, locals := 12 }) (PC [.ref wi] G (fun H => H.size = sz ∧ va_P G.1 vwCl [(wi, .inr (4, [.null, .int (nI 0), .int (nI 0), .int (nI 0)]))] H)) (MV none (fun H => ∃ ww, va_P G.1 vwCl [(wi, .inr (4, [.ref ww, .int (nI 0), .int (nI 0), .int (nI 40)])), (ww, .inl (G.2.1, 20, .inl (fun _ => nI 0)))] H ∧ va_D (va_A [(wi, .inr (4, [.null, .int (nI 0), .int (nI 0), .int (nI 0)]))] sz) [(wi, .inr (4, [.ref ww, .int (nI 0), .int (nI 0), .int (nI 40)])), (ww, .inl (G.2.1, 20, .inl (fun _ => nI 0)))]) (va_A [(wi, .inr (4, [.null, .int (nI 0), .int (nI 0), .int (nI 0)]))] sz)) 1 20 (va_A [(wi, .inr (4, [.null, .int (nI 0), .int (nI 0), .int (nI 0)]))] sz) := by
  refine ofB (cc := cX4_init) (maxL := 1) (ret := none) (by decide) rfl (Nat.le_of_ble_eq_true rfl) ?_
  intro p e s m below meth c hx hb hr hlocks hml hown hin hts hE hI ls hl
  replace hown : s.vm.findClass RX4 = some m.cls := hown
  have hl : lv_has ls 1 [(0, .ref wi)] := hl
  obtain ⟨hsz, hP⟩ := hI
  subst hsz
  have hD : va_D (va_A [(wi, .inr (4, [.null, .int (nI 0), .int (nI 0), .int (nI 0)]))] s.heap.size) [(wi, .inr (4, [.null, .int (nI 0), .int (nI 0), .int (nI 0)]))] := D_one (A_one.mpr (Or.inl rfl))
  have hA : ∀ q, s.heap.size ≤ q → va_A [(wi, .inr (4, [.null, .int (nI 0), .int (nI 0), .int (nI 0)]))] s.heap.size q := fun q h => Or.inr h
  obtain ⟨A, hAe⟩ : ∃ A, A = va_A [(wi, .inr (4, [.null, .int (nI 0), .int (nI 0), .int (nI 0)]))] s.heap.size := ⟨_, rfl⟩
  rw [← hAe] at hD hA ⊢
  have hS : va_S A s.heap s.heap [] := va_S.rf
  obtain ⟨H, hHe⟩ : ∃ H, H = s.heap := ⟨_, rfl⟩
  obtain ⟨locs, hle⟩ : ∃ q : List Loc, q = [] := ⟨_, rfl⟩
  rw [← hle] at hS ⊢
  have hP : va_P G.1 vwCl [(wi, .inr (4, [.null, .int (nI 0), .int (nI 0), .int (nI 0)]))] H := by rw [hHe]; exact hP
  replace hS : va_S A s.heap H locs := by rw [hHe]; exact hS
  refine tH hHe ?_
  have w_0 := hts (.methodLink RX4 3 objectInit) (by decide +kernel)
  have w_1 := hts (.instanceMethod objectInit) (by decide +kernel)
  have w_2 := hts (.code objectInit ⟨#[0xb1]⟩ 1 none) (by decide +kernel)
  have w_3 := hts (.arrayClass .int) (by decide +kernel)
  have w_4 : ∀ w ∈ u_ws RX4 TX4 4, w ∈ wsX4_init := by decide +kernel
  have w_5 := hts (.fieldLink RX4 9 "CableFerry$Wire" "wears" "[I") (by decide +kernel)
  have w_6 := hts (.fieldLink RX4 15 "CableFerry$Wire" "slack" "I") (by decide +kernel)
  have w_7 := hts (.fieldLink RX4 19 "CableFerry$Wire" "stretch" "I") (by decide +kernel)
  have w_8 := hts (.fieldLink RX4 22 "CableFerry$Wire" "drum" "I") (by decide +kernel)
  refine lv_aload_n hx hb dX4_init_0 rfl (lv_at hl 0 rfl) ?_
  refine W.objInit hx hb hown w_0 w_1 w_2 rfl (hl.1.trans hml.symm) rfl dX4_init_1 (Nat.le_of_ble_eq_true rfl) (Nat.le_of_ble_eq_true rfl) ?_
  refine W.eq (g2 := F0 m 4 ls []) rfl ?_
  refine lv_aload_n hx hb dX4_init_4 rfl (lv_at hl 0 rfl) ?_
  refine lv_bipush (v := nI 20) hx hb dX4_init_5 (by decide +kernel) ?_
  refine va_newa (atype := .int) (ty := .int) (N' := 20) (a0 := (20, .inl (fun _ => nI 0))) hx hb w_3 rfl hE.1 hP hD hS hA (fun _ => rfl) (nI_pos (by decide)) (nI_clamp (by decide)) (by decide) (Nat.le_of_ble_eq_true rfl) (Nat.le_of_ble_eq_true rfl) dX4_init_7 (fun q7 cA H hN hP hD hS => ?_)
  obtain rfl := naI hE.1 hN
  clear hN
  refine W.widen (k := 1) (n := 20) (Nat.le_of_ble_eq_true rfl) (Nat.le_of_ble_eq_true rfl) ?_
  have hP : va_P G.1 vwCl [(wi, .inr (4, [.null, .int (nI 0), .int (nI 0), .int (nI 0)])), (q7, .inl (G.2.1, 20, .inl (fun _ => nI 0)))] H := hP
  have hD : va_D A [(wi, .inr (4, [.null, .int (nI 0), .int (nI 0), .int (nI 0)])), (q7, .inl (G.2.1, 20, .inl (fun _ => nI 0)))] := hD
  refine va_putF (D := G.1) (ci := 4) (v := .ref q7) (ty := .array .int) (C := RX4) (T := TX4) (N := 4) hx hb hts w_4 tyX4 tyX4_ok nmX4 hown hE.1 hP hD hS 0 rfl rfl 0 (by decide) w_5 (fun _ h9 => h9) rfl hin rfl (by decide +kernel) rfl rfl (Nat.le_of_ble_eq_true rfl) dX4_init_9 (fun H locs hP hD hS => ?_)
  have hP : va_P G.1 vwCl [(wi, .inr (4, [.ref q7, .int (nI 0), .int (nI 0), .int (nI 0)])), (q7, .inl (G.2.1, 20, .inl (fun _ => nI 0)))] H := hP
  have hD : va_D A [(wi, .inr (4, [.ref q7, .int (nI 0), .int (nI 0), .int (nI 0)])), (q7, .inl (G.2.1, 20, .inl (fun _ => nI 0)))] := hD
  refine lv_aload_n hx hb dX4_init_12 rfl (lv_at hl 0 rfl) ?_
  refine lv_iconst (v := nI 0) hx hb dX4_init_13 (by decide +kernel) ?_
  refine va_put (D := G.1) (ci := 4) (v := .int (nI 0)) (ty := .int) (C := RX4) (T := TX4) (N := 4) hx hb hts w_4 tyX4 tyX4_ok nmX4 hown hE.1 hP hD hS 0 rfl rfl 1 (by decide) w_6 (fun _ h9 => h9) rfl (by decide +kernel) rfl rfl (Nat.le_of_ble_eq_true rfl) dX4_init_14 (fun H locs hP hD hS => ?_)
  have hP : va_P G.1 vwCl [(wi, .inr (4, [.ref q7, .int (nI 0), .int (nI 0), .int (nI 0)])), (q7, .inl (G.2.1, 20, .inl (fun _ => nI 0)))] H := hP
  have hD : va_D A [(wi, .inr (4, [.ref q7, .int (nI 0), .int (nI 0), .int (nI 0)])), (q7, .inl (G.2.1, 20, .inl (fun _ => nI 0)))] := hD
  refine lv_aload_n hx hb dX4_init_17 rfl (lv_at hl 0 rfl) ?_
  refine lv_iconst (v := nI 0) hx hb dX4_init_18 (by decide +kernel) ?_
  refine va_put (D := G.1) (ci := 4) (v := .int (nI 0)) (ty := .int) (C := RX4) (T := TX4) (N := 4) hx hb hts w_4 tyX4 tyX4_ok nmX4 hown hE.1 hP hD hS 0 rfl rfl 2 (by decide) w_7 (fun _ h9 => h9) rfl (by decide +kernel) rfl rfl (Nat.le_of_ble_eq_true rfl) dX4_init_19 (fun H locs hP hD hS => ?_)
  have hP : va_P G.1 vwCl [(wi, .inr (4, [.ref q7, .int (nI 0), .int (nI 0), .int (nI 0)])), (q7, .inl (G.2.1, 20, .inl (fun _ => nI 0)))] H := hP
  have hD : va_D A [(wi, .inr (4, [.ref q7, .int (nI 0), .int (nI 0), .int (nI 0)])), (q7, .inl (G.2.1, 20, .inl (fun _ => nI 0)))] := hD
  refine lv_aload_n hx hb dX4_init_22 rfl (lv_at hl 0 rfl) ?_
  refine lv_bipush (v := nI 40) hx hb dX4_init_23 (by decide +kernel) ?_
  refine va_put (D := G.1) (ci := 4) (v := .int (nI 40)) (ty := .int) (C := RX4) (T := TX4) (N := 4) hx hb hts w_4 tyX4 tyX4_ok nmX4 hown hE.1 hP hD hS 0 rfl rfl 3 (by decide) w_8 (fun _ h9 => h9) rfl (by decide +kernel) rfl rfl (Nat.le_of_ble_eq_true rfl) dX4_init_25 (fun H locs hP hD hS => ?_)
  have hP : va_P G.1 vwCl [(wi, .inr (4, [.ref q7, .int (nI 0), .int (nI 0), .int (nI 40)])), (q7, .inl (G.2.1, 20, .inl (fun _ => nI 0)))] H := hP
  have hD : va_D A [(wi, .inr (4, [.ref q7, .int (nI 0), .int (nI 0), .int (nI 40)])), (q7, .inl (G.2.1, 20, .inl (fun _ => nI 0)))] := hD
  refine W.widen (k := 1) (n := 20) (Nat.le_of_ble_eq_true rfl) (Nat.le_of_ble_eq_true rfl) ?_
  exact W.vret hx hb hr (fun t ht hW => ⟨rfl, by rw [ht]; exact ⟨_, hP, hD⟩, hS.F ht⟩) hS.2.2 dX4_init_28
set_option maxHeartbeats 4000000 in
set_option maxRecDepth 100000 in
theorem c_X3_init (l : Launch) (G : eG) (lo : Nat) (st sz : Nat) (hlo : lo ≤ st) (hlz : lo ≤ sz) : Met l yX3_init wsX3_init ({ frames := 2, cells := 16, slots := 123, locals := 61 }) (PF lo [.ref st] G (fun H => H.size = sz ∧ va_P G.1 vwCl [(st, .inr (3, [.null, .null, .null, .null, .null, .null, .null, .int (nI 0), .int (nI 0), .int (nI 0), .int (nI 0), .int (nI 0), .int (nI 0), .int (nI 0)]))] H)) (MV none (fun H => ∃ an : Nat → Nat, an 0 = st ∧ va_P G.1 vwCl (cST G an fI (nI 0) (nI 0) (fun _ _ => nI 0)) H ∧ va_D (va_A [(st, .inr (3, [.null, .null, .null, .null, .null, .null, .null, .int (nI 0), .int (nI 0), .int (nI 0), .int (nI 0), .int (nI 0), .int (nI 0), .int (nI 0)]))] sz) (cST G an fI (nI 0) (nI 0) (fun _ _ => nI 0))) (va_A [(st, .inr (3, [.null, .null, .null, .null, .null, .null, .null, .int (nI 0), .int (nI 0), .int (nI 0), .int (nI 0), .int (nI 0), .int (nI 0), .int (nI 0)]))] sz)) 16 123 (va_A [(st, .inr (3, [.null, .null, .null, .null, .null, .null, .null, .int (nI 0), .int (nI 0), .int (nI 0), .int (nI 0), .int (nI 0), .int (nI 0), .int (nI 0)]))] sz) := by
  refine ofBFX (cc := cX3_init) (maxL := 2) (ret := none) (by decide) rfl (Nat.le_of_ble_eq_true rfl) ?_
  intro p e s m below meth c hx hb hr hlocks hml hown hin hts hE hF0 hI ls hl
  replace hown : s.vm.findClass RX3 = some m.cls := hown
  have hl : lv_has ls 2 [(0, .ref st)] := hl
  obtain ⟨hsz, hP⟩ := hI
  subst hsz
  have hD : va_D (va_A [(st, .inr (3, [.null, .null, .null, .null, .null, .null, .null, .int (nI 0), .int (nI 0), .int (nI 0), .int (nI 0), .int (nI 0), .int (nI 0), .int (nI 0)]))] s.heap.size) [(st, .inr (3, [.null, .null, .null, .null, .null, .null, .null, .int (nI 0), .int (nI 0), .int (nI 0), .int (nI 0), .int (nI 0), .int (nI 0), .int (nI 0)]))] := D_one (A_one.mpr (Or.inl rfl))
  have hA : ∀ q, s.heap.size ≤ q → va_A [(st, .inr (3, [.null, .null, .null, .null, .null, .null, .null, .int (nI 0), .int (nI 0), .int (nI 0), .int (nI 0), .int (nI 0), .int (nI 0), .int (nI 0)]))] s.heap.size q := fun q h => Or.inr h
  have hAl : ∀ q, va_A [(st, .inr (3, [.null, .null, .null, .null, .null, .null, .null, .int (nI 0), .int (nI 0), .int (nI 0), .int (nI 0), .int (nI 0), .int (nI 0), .int (nI 0)]))] s.heap.size q → lo ≤ q := fun q h => by
    rcases A_one.mp h with h | h
    · rw [h]; exact hlo
    · exact Nat.le_trans hlz h
  obtain ⟨A, hAe⟩ : ∃ A, A = va_A [(st, .inr (3, [.null, .null, .null, .null, .null, .null, .null, .int (nI 0), .int (nI 0), .int (nI 0), .int (nI 0), .int (nI 0), .int (nI 0), .int (nI 0)]))] s.heap.size := ⟨_, rfl⟩
  rw [← hAe] at hD hA hAl ⊢
  have hS : va_S A s.heap s.heap [] := va_S.rf
  obtain ⟨H, hHe⟩ : ∃ H, H = s.heap := ⟨_, rfl⟩
  obtain ⟨locs, hle⟩ : ∃ q : List Loc, q = [] := ⟨_, rfl⟩
  rw [← hle] at hS ⊢
  have hP : va_P G.1 vwCl [(st, .inr (3, [.null, .null, .null, .null, .null, .null, .null, .int (nI 0), .int (nI 0), .int (nI 0), .int (nI 0), .int (nI 0), .int (nI 0), .int (nI 0)]))] H := by rw [hHe]; exact hP
  replace hS : va_S A s.heap H locs := by rw [hHe]; exact hS
  refine tH hHe ?_
  have w_0 := hts (.methodLink RX3 3 objectInit) (by decide +kernel)
  have w_1 := hts (.instanceMethod objectInit) (by decide +kernel)
  have w_2 := hts (.code objectInit ⟨#[0xb1]⟩ 1 none) (by decide +kernel)
  have w_3 := hts (.arrayClass .int) (by decide +kernel)
  have w_4 : ∀ w ∈ u_ws RX3 TX3 14, w ∈ wsX3_init := by decide +kernel
  have w_5 := hts (.fieldLink RX3 9 "CableFerry$State" "currents" "[I") (by decide +kernel)
  have w_6 := hts (.fieldLink RX3 15 "CableFerry$State" "settings" "[I") (by decide +kernel)
  have w_7 := hts (.static yX5_copyRow) (by decide +kernel)
  have w_8 : ∀ w ∈ u_ws RX1 TX1 4, w ∈ wsX3_init := by decide +kernel
  have w_9 := hts (.classLink RX3 25 RX1) (by decide +kernel)
  have w_10 := hts (.instantiable RX1 4) (by decide +kernel)
  have w_11 := hts (.initialized RX1) (by decide +kernel)
  have w_12 := hts (.methodLink RX3 27 yX1_init) (by decide +kernel)
  have w_13 := hts (.instanceMethod yX1_init) (by decide +kernel)
  have w_14 := hts (.fieldLink RX3 30 "CableFerry$State" "bank0" "LCableFerry$Line;") (by decide +kernel)
  have w_15 := hts (.fieldLink RX3 34 "CableFerry$State" "bank1" "LCableFerry$Line;") (by decide +kernel)
  have w_16 := hts (.fieldLink RX3 37 "CableFerry$State" "lane0" "LCableFerry$Line;") (by decide +kernel)
  have w_17 := hts (.fieldLink RX3 40 "CableFerry$State" "lane1" "LCableFerry$Line;") (by decide +kernel)
  have w_18 : ∀ w ∈ u_ws RX4 TX4 4, w ∈ wsX3_init := by decide +kernel
  have w_19 := hts (.classLink RX3 43 RX4) (by decide +kernel)
  have w_20 := hts (.instantiable RX4 4) (by decide +kernel)
  have w_21 := hts (.initialized RX4) (by decide +kernel)
  have w_22 := hts (.methodLink RX3 45 yX4_init) (by decide +kernel)
  have w_23 := hts (.instanceMethod yX4_init) (by decide +kernel)
  have w_24 := hts (.fieldLink RX3 46 "CableFerry$State" "wire" "LCableFerry$Wire;") (by decide +kernel)
  refine lv_aload_n hx hb dX3_init_0 rfl (lv_at hl 0 rfl) ?_
  refine W.objInit hx hb hown w_0 w_1 w_2 rfl (hl.1.trans hml.symm) rfl dX3_init_1 (Nat.le_of_ble_eq_true rfl) (Nat.le_of_ble_eq_true rfl) ?_
  refine W.eq (g2 := F0 m 4 ls []) rfl ?_
  refine lv_aload_n hx hb dX3_init_4 rfl (lv_at hl 0 rfl) ?_
  refine lv_bipush (v := nI 24) hx hb dX3_init_5 (by decide +kernel) ?_
  refine va_newa (atype := .int) (ty := .int) (N' := 24) (a0 := (24, .inl (fun _ => nI 0))) hx hb w_3 rfl hE.1 hP hD hS hA (fun _ => rfl) (nI_pos (by decide)) (nI_clamp (by decide)) (by decide) (Nat.le_of_ble_eq_true rfl) (Nat.le_of_ble_eq_true rfl) dX3_init_7 (fun q7 cA H hN hP hD hS => ?_)
  obtain rfl := naI hE.1 hN
  clear hN
  refine W.widen (k := 1) (n := 24) (Nat.le_of_ble_eq_true rfl) (Nat.le_of_ble_eq_true rfl) ?_
  have hP : va_P G.1 vwCl [(st, .inr (3, [.null, .null, .null, .null, .null, .null, .null, .int (nI 0), .int (nI 0), .int (nI 0), .int (nI 0), .int (nI 0), .int (nI 0), .int (nI 0)])), (q7, .inl (G.2.1, 24, .inl (fun _ => nI 0)))] H := hP
  have hD : va_D A [(st, .inr (3, [.null, .null, .null, .null, .null, .null, .null, .int (nI 0), .int (nI 0), .int (nI 0), .int (nI 0), .int (nI 0), .int (nI 0), .int (nI 0)])), (q7, .inl (G.2.1, 24, .inl (fun _ => nI 0)))] := hD
  refine va_putF (D := G.1) (ci := 3) (v := .ref q7) (ty := .array .int) (C := RX3) (T := TX3) (N := 14) hx hb hts w_4 tyX3 tyX3_ok nmX3 hown hE.1 hP hD hS 0 rfl rfl 0 (by decide) w_5 (fun _ h9 => h9) rfl hin rfl (by decide +kernel) rfl rfl (Nat.le_of_ble_eq_true rfl) dX3_init_9 (fun H locs hP hD hS => ?_)
  have hP : va_P G.1 vwCl [(st, .inr (3, [.ref q7, .null, .null, .null, .null, .null, .null, .int (nI 0), .int (nI 0), .int (nI 0), .int (nI 0), .int (nI 0), .int (nI 0), .int (nI 0)])), (q7, .inl (G.2.1, 24, .inl (fun _ => nI 0)))] H := hP
  have hD : va_D A [(st, .inr (3, [.ref q7, .null, .null, .null, .null, .null, .null, .int (nI 0), .int (nI 0), .int (nI 0), .int (nI 0), .int (nI 0), .int (nI 0), .int (nI 0)])), (q7, .inl (G.2.1, 24, .inl (fun _ => nI 0)))] := hD
  refine lv_iconst (v := nI 0) hx hb dX3_init_12 (by decide +kernel) ?_
  refine lv_istore_n (lv' := [(1, .int (nI 0)), (0, .ref st)]) hx hb dX3_init_13 rfl hl (by decide) rfl (fun ls hl => ?_)
  rw [crI_0] at hP hD
  have hP : va_P G.1 vwCl [(st, .inr (3, [.ref q7, .null, .null, .null, .null, .null, .null, .int (nI 0), .int (nI 0), .int (nI 0), .int (nI 0), .int (nI 0), .int (nI 0), .int (nI 0)])), (q7, .inl (G.2.1, 24, .inl (crI 0)))] H := hP
  have hD : va_D A [(st, .inr (3, [.ref q7, .null, .null, .null, .null, .null, .null, .int (nI 0), .int (nI 0), .int (nI 0), .int (nI 0), .int (nI 0), .int (nI 0), .int (nI 0)])), (q7, .inl (G.2.1, 24, .inl (crI 0)))] := hD
  refine loopH (σ := Nat) (n := 2) (pc1 := 14) (fun i => 24 - i) (fun i => i ≤ 24) (fun i => fun (H : Heap) (locs : List Loc) => va_P G.1 vwCl [(st, .inr (3, [.ref q7, .null, .null, .null, .null, .null, .null, .int (nI 0), .int (nI 0), .int (nI 0), .int (nI 0), .int (nI 0), .int (nI 0), .int (nI 0)])), (q7, .inl (G.2.1, 24, .inl (crI i)))] H ∧ va_D A [(st, .inr (3, [.ref q7, .null, .null, .null, .null, .null, .null, .int (nI 0), .int (nI 0), .int (nI 0), .int (nI 0), .int (nI 0), .int (nI 0), .int (nI 0)])), (q7, .inl (G.2.1, 24, .inl (crI i)))] ∧ va_S A s.heap H locs) (fun i => [(1, .int (nI i)), (0, .ref st)]) (fun i => []) ?_ (0) H _ _ (Nat.zero_le _) ⟨hP, hD, hS⟩ (lv_sub hl [0, 1] rfl)
  rintro i H locs ls hI ⟨hP, hD, hS⟩ hl ih14
  have hl : lv_has ls 2 [(1, .int (nI i)), (0, .ref st)] := hl
  replace hI : i ≤ 24 := hI
  have hP : va_P G.1 vwCl [(st, .inr (3, [.ref q7, .null, .null, .null, .null, .null, .null, .int (nI 0), .int (nI 0), .int (nI 0), .int (nI 0), .int (nI 0), .int (nI 0), .int (nI 0)])), (q7, .inl (G.2.1, 24, .inl (crI i)))] H := hP
  have hD : va_D A [(st, .inr (3, [.ref q7, .null, .null, .null, .null, .null, .null, .int (nI 0), .int (nI 0), .int (nI 0), .int (nI 0), .int (nI 0), .int (nI 0), .int (nI 0)])), (q7, .inl (G.2.1, 24, .inl (crI i)))] := hD
  refine tS (st' := []) rfl ?_
  refine lv_iload_n hx hb dX3_init_14 rfl (lv_at hl 0 rfl) ?_
  refine lv_aload_n hx hb dX3_init_15 rfl (lv_at hl 1 rfl) ?_
  refine va_get (D := G.1) (ci := 3) (v := .ref q7) (C := RX3) (T := TX3) (N := 14) hx hb hts w_4 hown hE.1 hP 0 rfl rfl 0 (by decide) w_5 (fun _ h9 => h9) rfl dX3_init_16 ?_
  refine va_alen (v := nI 24) hx hb hE.1 hP 1 0 rfl rfl rfl dX3_init_19 ?_
  refine icmp_geN (tgt := 37) hx hb (by omega) (by omega) dX3_init_20 (by decide) (fun c20 => ?_) (fun c20 => ?_)
  · skip
    have e24 : i = 24 := by omega
    rw [e24] at hP hD
    have hP : va_P G.1 vwCl [(st, .inr (3, [.ref q7, .null, .null, .null, .null, .null, .null, .int (nI 0), .int (nI 0), .int (nI 0), .int (nI 0), .int (nI 0), .int (nI 0), .int (nI 0)])), (q7, .inl (G.2.1, 24, .inl (crI 24)))] H := hP
    have hD : va_D A [(st, .inr (3, [.ref q7, .null, .null, .null, .null, .null, .null, .int (nI 0), .int (nI 0), .int (nI 0), .int (nI 0), .int (nI 0), .int (nI 0), .int (nI 0)])), (q7, .inl (G.2.1, 24, .inl (crI 24)))] := hD
    refine lv_aload_n hx hb dX3_init_37 rfl (lv_at hl 1 rfl) ?_
    refine lv_iconst (v := nI 3) hx hb dX3_init_38 (by decide +kernel) ?_
    refine va_newa (atype := .int) (ty := .int) (N' := 3) (a0 := (3, .inl (fun _ => nI 0))) hx hb w_3 rfl hE.1 hP hD hS hA (fun _ => rfl) (nI_pos (by decide)) (nI_clamp (by decide)) (by decide) (Nat.le_of_ble_eq_true rfl) (Nat.le_of_ble_eq_true rfl) dX3_init_39 (fun q39 cA H hN hP hD hS => ?_)
    obtain rfl := naI hE.1 hN
    clear hN
    refine W.widen (k := 2) (n := 27) (Nat.le_of_ble_eq_true rfl) (Nat.le_of_ble_eq_true rfl) ?_
    have hP : va_P G.1 vwCl [(st, .inr (3, [.ref q7, .null, .null, .null, .null, .null, .null, .int (nI 0), .int (nI 0), .int (nI 0), .int (nI 0), .int (nI 0), .int (nI 0), .int (nI 0)])), (q7, .inl (G.2.1, 24, .inl (crI 24))), (q39, .inl (G.2.1, 3, .inl (fun _ => nI 0)))] H := hP
    have hD : va_D A [(st, .inr (3, [.ref q7, .null, .null, .null, .null, .null, .null, .int (nI 0), .int (nI 0), .int (nI 0), .int (nI 0), .int (nI 0), .int (nI 0), .int (nI 0)])), (q7, .inl (G.2.1, 24, .inl (crI 24))), (q39, .inl (G.2.1, 3, .inl (fun _ => nI 0)))] := hD
    refine va_putF (D := G.1) (ci := 3) (v := .ref q39) (ty := .array .int) (C := RX3) (T := TX3) (N := 14) hx hb hts w_4 tyX3 tyX3_ok nmX3 hown hE.1 hP hD hS 0 rfl rfl 1 (by decide) w_6 (fun _ h9 => h9) rfl hin rfl (by decide +kernel) rfl rfl (Nat.le_of_ble_eq_true rfl) dX3_init_41 (fun H locs hP hD hS => ?_)
    have hP : va_P G.1 vwCl [(st, .inr (3, [.ref q7, .ref q39, .null, .null, .null, .null, .null, .int (nI 0), .int (nI 0), .int (nI 0), .int (nI 0), .int (nI 0), .int (nI 0), .int (nI 0)])), (q7, .inl (G.2.1, 24, .inl (crI 24))), (q39, .inl (G.2.1, 3, .inl (fun _ => nI 0)))] H := hP
    have hD : va_D A [(st, .inr (3, [.ref q7, .ref q39, .null, .null, .null, .null, .null, .int (nI 0), .int (nI 0), .int (nI 0), .int (nI 0), .int (nI 0), .int (nI 0), .int (nI 0)])), (q7, .inl (G.2.1, 24, .inl (crI 24))), (q39, .inl (G.2.1, 3, .inl (fun _ => nI 0)))] := hD
    obtain ⟨-, hnl, t, hz, ht⟩ := hF0
    refine va_getsN (C := RX5) (n := "FIRST_SETTINGS") (d := "[I") (A := A) hx hb (hz.narrow hAl) hS hown (va_Nw.use rfl hnl) (fun _ h9 => h9) dX3_init_44 ?_
    refine lv_aload_n hx hb dX3_init_47 rfl (lv_at hl 1 rfl) ?_
    refine va_get (D := G.1) (ci := 3) (v := .ref q39) (C := RX3) (T := TX3) (N := 14) hx hb hts w_4 hown hE.1 hP 0 rfl rfl 1 (by decide) w_6 (fun _ h9 => h9) rfl dX3_init_48 ?_
    have hPc := hP.sub (ws' := [(q39, .inl (G.2.1, 3, .inl (fun _ => nI 0)))]) [2] rfl
    have hDc := hD.sub (ws' := [(q39, .inl (G.2.1, 3, .inl (fun _ => nI 0)))]) [2] (by decide) rfl
    refine mcall (st1 := []) (va_runSN (As := [.ref t, .ref q39]) (rest := []) ⟨hx, hb, hml, hown, hts⟩ (c_X5_copyRow_T l G t q39 (fun _ => nI 0)) ⟨va_cnB 2 hts gX3_init_X5_copyRow_n21 rfl rfl rfl (hE.2 (RX3, 21, yX5_copyRow) (by decide +kernel)) (hts (.initialized RX5) (by decide +kernel)) (by decide +kernel) ⟨Nat.le_of_ble_eq_true rfl, Nat.le_of_ble_eq_true rfl⟩, w_7, trivial⟩ (PTW.preS hE (((ht.narrow hAl).kept hS.2.1).narrow (inW_D hDc)) ⟨hPc, hDc.weaken (fun _ _ _ _ => trivial)⟩) rfl rfl hl.1 rfl (lv_room (Nat.le_of_ble_eq_true rfl)) dX3_init_51 ⟨Nat.le_of_ble_eq_true rfl, Nat.le_of_ble_eq_true rfl⟩) hS (fun q _ h => inW_D hDc q h) (fun q h => inW_D hDc q h) rfl (fun H1 locs1 hB hz1 hk1 hS => ?_)
    obtain ⟨hP1, hD1⟩ := hB
    obtain ⟨hP, hD⟩ := jnW (wr := [(st, .inr (3, [.ref q7, .ref q39, .null, .null, .null, .null, .null, .int (nI 0), .int (nI 0), .int (nI 0), .int (nI 0), .int (nI 0), .int (nI 0), .int (nI 0)])), (q7, .inl (G.2.1, 24, .inl (crI 24)))]) (w1 := [(q39, .inl (G.2.1, 3, .inl (fun j => nI (fiS j))))]) hP hD [2] [0, 1] rfl rfl (by decide) (by decide) hk1 hP1 hD1
    generalize H1 = H at hP hS ⊢
    have hP : va_P G.1 vwCl [(st, .inr (3, [.ref q7, .ref q39, .null, .null, .null, .null, .null, .int (nI 0), .int (nI 0), .int (nI 0), .int (nI 0), .int (nI 0), .int (nI 0), .int (nI 0)])), (q7, .inl (G.2.1, 24, .inl (crI 24))), (q39, .inl (G.2.1, 3, .inl (fun j => nI (fiS j))))] H := hP
    have hD : va_D A [(st, .inr (3, [.ref q7, .ref q39, .null, .null, .null, .null, .null, .int (nI 0), .int (nI 0), .int (nI 0), .int (nI 0), .int (nI 0), .int (nI 0), .int (nI 0)])), (q7, .inl (G.2.1, 24, .inl (crI 24))), (q39, .inl (G.2.1, 3, .inl (fun j => nI (fiS j))))] := hD
    refine lv_aload_n hx hb dX3_init_54 rfl (lv_at hl 1 rfl) ?_
    refine va_new (ci := 1) (fs := [.null, .null, .int (nI 0), .int (nI 0)]) (C := RX1) (T := TX1) (N := 4) hx hb hts w_8 tyX1 tyX1_ok hown w_9 w_10 w_11 hE.1 hP hD hS hA rfl (fun j hj => by rcases (show j = 0 ∨ j = 1 ∨ j = 2 ∨ j = 3 by omega) with rfl | rfl | rfl | rfl <;> rfl) (Nat.le_of_ble_eq_true rfl) (Nat.le_of_ble_eq_true rfl) dX3_init_55 (fun q55 H hP hD hS => ?_)
    refine W.widen (k := 3) (n := 31) (Nat.le_of_ble_eq_true rfl) (Nat.le_of_ble_eq_true rfl) ?_
    refine lv_dup hx hb dX3_init_58 rfl ?_
    refine lv_bipush (v := nI 10) hx hb dX3_init_59 (by decide +kernel) ?_
    have hFc := frC hD hS hA
    refine mcall (st1 := [.ref q55, .ref st]) (va_runI (As := [.int (nI 10)]) (rest := [.ref q55, .ref st]) ⟨hx, hb, hml, hown, hts⟩ (c_X1_init_10 l G q55 H.size) (cwI 1 hts gX3_init_X1_init rfl rfl rfl w_11 w_12 w_13 rfl (by decide +kernel) ⟨Nat.le_of_ble_eq_true rfl, Nat.le_of_ble_eq_true rfl⟩) (PC.preS hE ⟨rfl, P_last hP⟩) rfl rfl hl.1 rfl (lv_room (Nat.le_of_ble_eq_true rfl)) dX3_init_61 ⟨Nat.le_of_ble_eq_true rfl, Nat.le_of_ble_eq_true rfl⟩) hS (fun x _ h => hFc x h) hFc rfl (fun H1 locs1 hB hz1 hk1 hS => ?_)
    refine W.widen (k := 5) (n := 51) (Nat.le_of_ble_eq_true rfl) (Nat.le_of_ble_eq_true rfl) ?_
    obtain ⟨w61, b61, hP1, hD1⟩ := hB
    obtain ⟨hP, hD⟩ := jnC hP hD hFc hk1 hP1 hD1
    clear hP1 hD1 hFc
    generalize H1 = H at hP hS ⊢
    have hP : va_P G.1 vwCl [(st, .inr (3, [.ref q7, .ref q39, .null, .null, .null, .null, .null, .int (nI 0), .int (nI 0), .int (nI 0), .int (nI 0), .int (nI 0), .int (nI 0), .int (nI 0)])), (q7, .inl (G.2.1, 24, .inl (crI 24))), (q39, .inl (G.2.1, 3, .inl (fun j => nI (fiS j)))), (q55, .inr (1, [.ref w61, .ref b61, .int (nI 0), .int (nI 0)])), (w61, .inl (G.2.1, 10, .inl (fun _ => nI 0))), (b61, .inl (G.2.1, 10, .inl (fun _ => nI 0)))] H := hP
    have hD : va_D A [(st, .inr (3, [.ref q7, .ref q39, .null, .null, .null, .null, .null, .int (nI 0), .int (nI 0), .int (nI 0), .int (nI 0), .int (nI 0), .int (nI 0), .int (nI 0)])), (q7, .inl (G.2.1, 24, .inl (crI 24))), (q39, .inl (G.2.1, 3, .inl (fun j => nI (fiS j)))), (q55, .inr (1, [.ref w61, .ref b61, .int (nI 0), .int (nI 0)])), (w61, .inl (G.2.1, 10, .inl (fun _ => nI 0))), (b61, .inl (G.2.1, 10, .inl (fun _ => nI 0)))] := hD
    refine va_putF (D := G.1) (ci := 3) (v := .ref q55) (ty := .object "CableFerry$Line") (C := RX3) (T := TX3) (N := 14) hx hb hts w_4 tyX3 tyX3_ok nmX3 hown hE.1 hP hD hS 0 rfl rfl 2 (by decide) w_14 (fun _ h9 => h9) rfl hin rfl (by decide +kernel) rfl rfl (Nat.le_of_ble_eq_true rfl) dX3_init_64 (fun H locs hP hD hS => ?_)
    have hP : va_P G.1 vwCl [(st, .inr (3, [.ref q7, .ref q39, .ref q55, .null, .null, .null, .null, .int (nI 0), .int (nI 0), .int (nI 0), .int (nI 0), .int (nI 0), .int (nI 0), .int (nI 0)])), (q7, .inl (G.2.1, 24, .inl (crI 24))), (q39, .inl (G.2.1, 3, .inl (fun j => nI (fiS j)))), (q55, .inr (1, [.ref w61, .ref b61, .int (nI 0), .int (nI 0)])), (w61, .inl (G.2.1, 10, .inl (fun _ => nI 0))), (b61, .inl (G.2.1, 10, .inl (fun _ => nI 0)))] H := hP
    have hD : va_D A [(st, .inr (3, [.ref q7, .ref q39, .ref q55, .null, .null, .null, .null, .int (nI 0), .int (nI 0), .int (nI 0), .int (nI 0), .int (nI 0), .int (nI 0), .int (nI 0)])), (q7, .inl (G.2.1, 24, .inl (crI 24))), (q39, .inl (G.2.1, 3, .inl (fun j => nI (fiS j)))), (q55, .inr (1, [.ref w61, .ref b61, .int (nI 0), .int (nI 0)])), (w61, .inl (G.2.1, 10, .inl (fun _ => nI 0))), (b61, .inl (G.2.1, 10, .inl (fun _ => nI 0)))] := hD
    refine lv_aload_n hx hb dX3_init_67 rfl (lv_at hl 1 rfl) ?_
    refine va_new (ci := 1) (fs := [.null, .null, .int (nI 0), .int (nI 0)]) (C := RX1) (T := TX1) (N := 4) hx hb hts w_8 tyX1 tyX1_ok hown w_9 w_10 w_11 hE.1 hP hD hS hA rfl (fun j hj => by rcases (show j = 0 ∨ j = 1 ∨ j = 2 ∨ j = 3 by omega) with rfl | rfl | rfl | rfl <;> rfl) (Nat.le_of_ble_eq_true rfl) (Nat.le_of_ble_eq_true rfl) dX3_init_68 (fun q68 H hP hD hS => ?_)
    refine W.widen (k := 6) (n := 55) (Nat.le_of_ble_eq_true rfl) (Nat.le_of_ble_eq_true rfl) ?_
    refine lv_dup hx hb dX3_init_71 rfl ?_
    refine lv_bipush (v := nI 10) hx hb dX3_init_72 (by decide +kernel) ?_
    have hFc := frC hD hS hA
    refine mcall (st1 := [.ref q68, .ref st]) (va_runI (As := [.int (nI 10)]) (rest := [.ref q68, .ref st]) ⟨hx, hb, hml, hown, hts⟩ (c_X1_init_10 l G q68 H.size) (cwI 1 hts gX3_init_X1_init rfl rfl rfl w_11 w_12 w_13 rfl (by decide +kernel) ⟨Nat.le_of_ble_eq_true rfl, Nat.le_of_ble_eq_true rfl⟩) (PC.preS hE ⟨rfl, P_last hP⟩) rfl rfl hl.1 rfl (lv_room (Nat.le_of_ble_eq_true rfl)) dX3_init_74 ⟨Nat.le_of_ble_eq_true rfl, Nat.le_of_ble_eq_true rfl⟩) hS (fun x _ h => hFc x h) hFc rfl (fun H1 locs1 hB hz1 hk1 hS => ?_)
    refine W.widen (k := 8) (n := 75) (Nat.le_of_ble_eq_true rfl) (Nat.le_of_ble_eq_true rfl) ?_
    obtain ⟨w74, b74, hP1, hD1⟩ := hB
    obtain ⟨hP, hD⟩ := jnC hP hD hFc hk1 hP1 hD1
    clear hP1 hD1 hFc
    generalize H1 = H at hP hS ⊢
    have hP : va_P G.1 vwCl [(st, .inr (3, [.ref q7, .ref q39, .ref q55, .null, .null, .null, .null, .int (nI 0), .int (nI 0), .int (nI 0), .int (nI 0), .int (nI 0), .int (nI 0), .int (nI 0)])), (q7, .inl (G.2.1, 24, .inl (crI 24))), (q39, .inl (G.2.1, 3, .inl (fun j => nI (fiS j)))), (q55, .inr (1, [.ref w61, .ref b61, .int (nI 0), .int (nI 0)])), (w61, .inl (G.2.1, 10, .inl (fun _ => nI 0))), (b61, .inl (G.2.1, 10, .inl (fun _ => nI 0))), (q68, .inr (1, [.ref w74, .ref b74, .int (nI 0), .int (nI 0)])), (w74, .inl (G.2.1, 10, .inl (fun _ => nI 0))), (b74, .inl (G.2.1, 10, .inl (fun _ => nI 0)))] H := hP
    have hD : va_D A [(st, .inr (3, [.ref q7, .ref q39, .ref q55, .null, .null, .null, .null, .int (nI 0), .int (nI 0), .int (nI 0), .int (nI 0), .int (nI 0), .int (nI 0), .int (nI 0)])), (q7, .inl (G.2.1, 24, .inl (crI 24))), (q39, .inl (G.2.1, 3, .inl (fun j => nI (fiS j)))), (q55, .inr (1, [.ref w61, .ref b61, .int (nI 0), .int (nI 0)])), (w61, .inl (G.2.1, 10, .inl (fun _ => nI 0))), (b61, .inl (G.2.1, 10, .inl (fun _ => nI 0))), (q68, .inr (1, [.ref w74, .ref b74, .int (nI 0), .int (nI 0)])), (w74, .inl (G.2.1, 10, .inl (fun _ => nI 0))), (b74, .inl (G.2.1, 10, .inl (fun _ => nI 0)))] := hD
    refine va_putF (D := G.1) (ci := 3) (v := .ref q68) (ty := .object "CableFerry$Line") (C := RX3) (T := TX3) (N := 14) hx hb hts w_4 tyX3 tyX3_ok nmX3 hown hE.1 hP hD hS 0 rfl rfl 3 (by decide) w_15 (fun _ h9 => h9) rfl hin rfl (by decide +kernel) rfl rfl (Nat.le_of_ble_eq_true rfl) dX3_init_77 (fun H locs hP hD hS => ?_)
    have hP : va_P G.1 vwCl [(st, .inr (3, [.ref q7, .ref q39, .ref q55, .ref q68, .null, .null, .null, .int (nI 0), .int (nI 0), .int (nI 0), .int (nI 0), .int (nI 0), .int (nI 0), .int (nI 0)])), (q7, .inl (G.2.1, 24, .inl (crI 24))), (q39, .inl (G.2.1, 3, .inl (fun j => nI (fiS j)))), (q55, .inr (1, [.ref w61, .ref b61, .int (nI 0), .int (nI 0)])), (w61, .inl (G.2.1, 10, .inl (fun _ => nI 0))), (b61, .inl (G.2.1, 10, .inl (fun _ => nI 0))), (q68, .inr (1, [.ref w74, .ref b74, .int (nI 0), .int (nI 0)])), (w74, .inl (G.2.1, 10, .inl (fun _ => nI 0))), (b74, .inl (G.2.1, 10, .inl (fun _ => nI 0)))] H := hP
    have hD : va_D A [(st, .inr (3, [.ref q7, .ref q39, .ref q55, .ref q68, .null, .null, .null, .int (nI 0), .int (nI 0), .int (nI 0), .int (nI 0), .int (nI 0), .int (nI 0), .int (nI 0)])), (q7, .inl (G.2.1, 24, .inl (crI 24))), (q39, .inl (G.2.1, 3, .inl (fun j => nI (fiS j)))), (q55, .inr (1, [.ref w61, .ref b61, .int (nI 0), .int (nI 0)])), (w61, .inl (G.2.1, 10, .inl (fun _ => nI 0))), (b61, .inl (G.2.1, 10, .inl (fun _ => nI 0))), (q68, .inr (1, [.ref w74, .ref b74, .int (nI 0), .int (nI 0)])), (w74, .inl (G.2.1, 10, .inl (fun _ => nI 0))), (b74, .inl (G.2.1, 10, .inl (fun _ => nI 0)))] := hD
    refine lv_aload_n hx hb dX3_init_80 rfl (lv_at hl 1 rfl) ?_
    refine va_new (ci := 1) (fs := [.null, .null, .int (nI 0), .int (nI 0)]) (C := RX1) (T := TX1) (N := 4) hx hb hts w_8 tyX1 tyX1_ok hown w_9 w_10 w_11 hE.1 hP hD hS hA rfl (fun j hj => by rcases (show j = 0 ∨ j = 1 ∨ j = 2 ∨ j = 3 by omega) with rfl | rfl | rfl | rfl <;> rfl) (Nat.le_of_ble_eq_true rfl) (Nat.le_of_ble_eq_true rfl) dX3_init_81 (fun q81 H hP hD hS => ?_)
    refine W.widen (k := 9) (n := 79) (Nat.le_of_ble_eq_true rfl) (Nat.le_of_ble_eq_true rfl) ?_
    refine lv_dup hx hb dX3_init_84 rfl ?_
    refine lv_iconst (v := nI 4) hx hb dX3_init_85 (by decide +kernel) ?_
    have hFc := frC hD hS hA
    refine mcall (st1 := [.ref q81, .ref st]) (va_runI (As := [.int (nI 4)]) (rest := [.ref q81, .ref st]) ⟨hx, hb, hml, hown, hts⟩ (c_X1_init_4 l G q81 H.size) (cwI 1 hts gX3_init_X1_init rfl rfl rfl w_11 w_12 w_13 rfl (by decide +kernel) ⟨Nat.le_of_ble_eq_true rfl, Nat.le_of_ble_eq_true rfl⟩) (PC.preS hE ⟨rfl, P_last hP⟩) rfl rfl hl.1 rfl (lv_room (Nat.le_of_ble_eq_true rfl)) dX3_init_86 ⟨Nat.le_of_ble_eq_true rfl, Nat.le_of_ble_eq_true rfl⟩) hS (fun x _ h => hFc x h) hFc rfl (fun H1 locs1 hB hz1 hk1 hS => ?_)
    refine W.widen (k := 11) (n := 87) (Nat.le_of_ble_eq_true rfl) (Nat.le_of_ble_eq_true rfl) ?_
    obtain ⟨w86, b86, hP1, hD1⟩ := hB
    obtain ⟨hP, hD⟩ := jnC hP hD hFc hk1 hP1 hD1
    clear hP1 hD1 hFc
    generalize H1 = H at hP hS ⊢
    have hP : va_P G.1 vwCl [(st, .inr (3, [.ref q7, .ref q39, .ref q55, .ref q68, .null, .null, .null, .int (nI 0), .int (nI 0), .int (nI 0), .int (nI 0), .int (nI 0), .int (nI 0), .int (nI 0)])), (q7, .inl (G.2.1, 24, .inl (crI 24))), (q39, .inl (G.2.1, 3, .inl (fun j => nI (fiS j)))), (q55, .inr (1, [.ref w61, .ref b61, .int (nI 0), .int (nI 0)])), (w61, .inl (G.2.1, 10, .inl (fun _ => nI 0))), (b61, .inl (G.2.1, 10, .inl (fun _ => nI 0))), (q68, .inr (1, [.ref w74, .ref b74, .int (nI 0), .int (nI 0)])), (w74, .inl (G.2.1, 10, .inl (fun _ => nI 0))), (b74, .inl (G.2.1, 10, .inl (fun _ => nI 0))), (q81, .inr (1, [.ref w86, .ref b86, .int (nI 0), .int (nI 0)])), (w86, .inl (G.2.1, 4, .inl (fun _ => nI 0))), (b86, .inl (G.2.1, 4, .inl (fun _ => nI 0)))] H := hP
    have hD : va_D A [(st, .inr (3, [.ref q7, .ref q39, .ref q55, .ref q68, .null, .null, .null, .int (nI 0), .int (nI 0), .int (nI 0), .int (nI 0), .int (nI 0), .int (nI 0), .int (nI 0)])), (q7, .inl (G.2.1, 24, .inl (crI 24))), (q39, .inl (G.2.1, 3, .inl (fun j => nI (fiS j)))), (q55, .inr (1, [.ref w61, .ref b61, .int (nI 0), .int (nI 0)])), (w61, .inl (G.2.1, 10, .inl (fun _ => nI 0))), (b61, .inl (G.2.1, 10, .inl (fun _ => nI 0))), (q68, .inr (1, [.ref w74, .ref b74, .int (nI 0), .int (nI 0)])), (w74, .inl (G.2.1, 10, .inl (fun _ => nI 0))), (b74, .inl (G.2.1, 10, .inl (fun _ => nI 0))), (q81, .inr (1, [.ref w86, .ref b86, .int (nI 0), .int (nI 0)])), (w86, .inl (G.2.1, 4, .inl (fun _ => nI 0))), (b86, .inl (G.2.1, 4, .inl (fun _ => nI 0)))] := hD
    refine va_putF (D := G.1) (ci := 3) (v := .ref q81) (ty := .object "CableFerry$Line") (C := RX3) (T := TX3) (N := 14) hx hb hts w_4 tyX3 tyX3_ok nmX3 hown hE.1 hP hD hS 0 rfl rfl 4 (by decide) w_16 (fun _ h9 => h9) rfl hin rfl (by decide +kernel) rfl rfl (Nat.le_of_ble_eq_true rfl) dX3_init_89 (fun H locs hP hD hS => ?_)
    have hP : va_P G.1 vwCl [(st, .inr (3, [.ref q7, .ref q39, .ref q55, .ref q68, .ref q81, .null, .null, .int (nI 0), .int (nI 0), .int (nI 0), .int (nI 0), .int (nI 0), .int (nI 0), .int (nI 0)])), (q7, .inl (G.2.1, 24, .inl (crI 24))), (q39, .inl (G.2.1, 3, .inl (fun j => nI (fiS j)))), (q55, .inr (1, [.ref w61, .ref b61, .int (nI 0), .int (nI 0)])), (w61, .inl (G.2.1, 10, .inl (fun _ => nI 0))), (b61, .inl (G.2.1, 10, .inl (fun _ => nI 0))), (q68, .inr (1, [.ref w74, .ref b74, .int (nI 0), .int (nI 0)])), (w74, .inl (G.2.1, 10, .inl (fun _ => nI 0))), (b74, .inl (G.2.1, 10, .inl (fun _ => nI 0))), (q81, .inr (1, [.ref w86, .ref b86, .int (nI 0), .int (nI 0)])), (w86, .inl (G.2.1, 4, .inl (fun _ => nI 0))), (b86, .inl (G.2.1, 4, .inl (fun _ => nI 0)))] H := hP
    have hD : va_D A [(st, .inr (3, [.ref q7, .ref q39, .ref q55, .ref q68, .ref q81, .null, .null, .int (nI 0), .int (nI 0), .int (nI 0), .int (nI 0), .int (nI 0), .int (nI 0), .int (nI 0)])), (q7, .inl (G.2.1, 24, .inl (crI 24))), (q39, .inl (G.2.1, 3, .inl (fun j => nI (fiS j)))), (q55, .inr (1, [.ref w61, .ref b61, .int (nI 0), .int (nI 0)])), (w61, .inl (G.2.1, 10, .inl (fun _ => nI 0))), (b61, .inl (G.2.1, 10, .inl (fun _ => nI 0))), (q68, .inr (1, [.ref w74, .ref b74, .int (nI 0), .int (nI 0)])), (w74, .inl (G.2.1, 10, .inl (fun _ => nI 0))), (b74, .inl (G.2.1, 10, .inl (fun _ => nI 0))), (q81, .inr (1, [.ref w86, .ref b86, .int (nI 0), .int (nI 0)])), (w86, .inl (G.2.1, 4, .inl (fun _ => nI 0))), (b86, .inl (G.2.1, 4, .inl (fun _ => nI 0)))] := hD
    refine lv_aload_n hx hb dX3_init_92 rfl (lv_at hl 1 rfl) ?_
    refine va_new (ci := 1) (fs := [.null, .null, .int (nI 0), .int (nI 0)]) (C := RX1) (T := TX1) (N := 4) hx hb hts w_8 tyX1 tyX1_ok hown w_9 w_10 w_11 hE.1 hP hD hS hA rfl (fun j hj => by rcases (show j = 0 ∨ j = 1 ∨ j = 2 ∨ j = 3 by omega) with rfl | rfl | rfl | rfl <;> rfl) (Nat.le_of_ble_eq_true rfl) (Nat.le_of_ble_eq_true rfl) dX3_init_93 (fun q93 H hP hD hS => ?_)
    refine W.widen (k := 12) (n := 91) (Nat.le_of_ble_eq_true rfl) (Nat.le_of_ble_eq_true rfl) ?_
    refine lv_dup hx hb dX3_init_96 rfl ?_
    refine lv_iconst (v := nI 4) hx hb dX3_init_97 (by decide +kernel) ?_
    have hFc := frC hD hS hA
    refine mcall (st1 := [.ref q93, .ref st]) (va_runI (As := [.int (nI 4)]) (rest := [.ref q93, .ref st]) ⟨hx, hb, hml, hown, hts⟩ (c_X1_init_4 l G q93 H.size) (cwI 1 hts gX3_init_X1_init rfl rfl rfl w_11 w_12 w_13 rfl (by decide +kernel) ⟨Nat.le_of_ble_eq_true rfl, Nat.le_of_ble_eq_true rfl⟩) (PC.preS hE ⟨rfl, P_last hP⟩) rfl rfl hl.1 rfl (lv_room (Nat.le_of_ble_eq_true rfl)) dX3_init_98 ⟨Nat.le_of_ble_eq_true rfl, Nat.le_of_ble_eq_true rfl⟩) hS (fun x _ h => hFc x h) hFc rfl (fun H1 locs1 hB hz1 hk1 hS => ?_)
    refine W.widen (k := 14) (n := 99) (Nat.le_of_ble_eq_true rfl) (Nat.le_of_ble_eq_true rfl) ?_
    obtain ⟨w98, b98, hP1, hD1⟩ := hB
    obtain ⟨hP, hD⟩ := jnC hP hD hFc hk1 hP1 hD1
    clear hP1 hD1 hFc
    generalize H1 = H at hP hS ⊢
    have hP : va_P G.1 vwCl [(st, .inr (3, [.ref q7, .ref q39, .ref q55, .ref q68, .ref q81, .null, .null, .int (nI 0), .int (nI 0), .int (nI 0), .int (nI 0), .int (nI 0), .int (nI 0), .int (nI 0)])), (q7, .inl (G.2.1, 24, .inl (crI 24))), (q39, .inl (G.2.1, 3, .inl (fun j => nI (fiS j)))), (q55, .inr (1, [.ref w61, .ref b61, .int (nI 0), .int (nI 0)])), (w61, .inl (G.2.1, 10, .inl (fun _ => nI 0))), (b61, .inl (G.2.1, 10, .inl (fun _ => nI 0))), (q68, .inr (1, [.ref w74, .ref b74, .int (nI 0), .int (nI 0)])), (w74, .inl (G.2.1, 10, .inl (fun _ => nI 0))), (b74, .inl (G.2.1, 10, .inl (fun _ => nI 0))), (q81, .inr (1, [.ref w86, .ref b86, .int (nI 0), .int (nI 0)])), (w86, .inl (G.2.1, 4, .inl (fun _ => nI 0))), (b86, .inl (G.2.1, 4, .inl (fun _ => nI 0))), (q93, .inr (1, [.ref w98, .ref b98, .int (nI 0), .int (nI 0)])), (w98, .inl (G.2.1, 4, .inl (fun _ => nI 0))), (b98, .inl (G.2.1, 4, .inl (fun _ => nI 0)))] H := hP
    have hD : va_D A [(st, .inr (3, [.ref q7, .ref q39, .ref q55, .ref q68, .ref q81, .null, .null, .int (nI 0), .int (nI 0), .int (nI 0), .int (nI 0), .int (nI 0), .int (nI 0), .int (nI 0)])), (q7, .inl (G.2.1, 24, .inl (crI 24))), (q39, .inl (G.2.1, 3, .inl (fun j => nI (fiS j)))), (q55, .inr (1, [.ref w61, .ref b61, .int (nI 0), .int (nI 0)])), (w61, .inl (G.2.1, 10, .inl (fun _ => nI 0))), (b61, .inl (G.2.1, 10, .inl (fun _ => nI 0))), (q68, .inr (1, [.ref w74, .ref b74, .int (nI 0), .int (nI 0)])), (w74, .inl (G.2.1, 10, .inl (fun _ => nI 0))), (b74, .inl (G.2.1, 10, .inl (fun _ => nI 0))), (q81, .inr (1, [.ref w86, .ref b86, .int (nI 0), .int (nI 0)])), (w86, .inl (G.2.1, 4, .inl (fun _ => nI 0))), (b86, .inl (G.2.1, 4, .inl (fun _ => nI 0))), (q93, .inr (1, [.ref w98, .ref b98, .int (nI 0), .int (nI 0)])), (w98, .inl (G.2.1, 4, .inl (fun _ => nI 0))), (b98, .inl (G.2.1, 4, .inl (fun _ => nI 0)))] := hD
    refine va_putF (D := G.1) (ci := 3) (v := .ref q93) (ty := .object "CableFerry$Line") (C := RX3) (T := TX3) (N := 14) hx hb hts w_4 tyX3 tyX3_ok nmX3 hown hE.1 hP hD hS 0 rfl rfl 5 (by decide) w_17 (fun _ h9 => h9) rfl hin rfl (by decide +kernel) rfl rfl (Nat.le_of_ble_eq_true rfl) dX3_init_101 (fun H locs hP hD hS => ?_)
    have hP : va_P G.1 vwCl [(st, .inr (3, [.ref q7, .ref q39, .ref q55, .ref q68, .ref q81, .ref q93, .null, .int (nI 0), .int (nI 0), .int (nI 0), .int (nI 0), .int (nI 0), .int (nI 0), .int (nI 0)])), (q7, .inl (G.2.1, 24, .inl (crI 24))), (q39, .inl (G.2.1, 3, .inl (fun j => nI (fiS j)))), (q55, .inr (1, [.ref w61, .ref b61, .int (nI 0), .int (nI 0)])), (w61, .inl (G.2.1, 10, .inl (fun _ => nI 0))), (b61, .inl (G.2.1, 10, .inl (fun _ => nI 0))), (q68, .inr (1, [.ref w74, .ref b74, .int (nI 0), .int (nI 0)])), (w74, .inl (G.2.1, 10, .inl (fun _ => nI 0))), (b74, .inl (G.2.1, 10, .inl (fun _ => nI 0))), (q81, .inr (1, [.ref w86, .ref b86, .int (nI 0), .int (nI 0)])), (w86, .inl (G.2.1, 4, .inl (fun _ => nI 0))), (b86, .inl (G.2.1, 4, .inl (fun _ => nI 0))), (q93, .inr (1, [.ref w98, .ref b98, .int (nI 0), .int (nI 0)])), (w98, .inl (G.2.1, 4, .inl (fun _ => nI 0))), (b98, .inl (G.2.1, 4, .inl (fun _ => nI 0)))] H := hP
    have hD : va_D A [(st, .inr (3, [.ref q7, .ref q39, .ref q55, .ref q68, .ref q81, .ref q93, .null, .int (nI 0), .int (nI 0), .int (nI 0), .int (nI 0), .int (nI 0), .int (nI 0), .int (nI 0)])), (q7, .inl (G.2.1, 24, .inl (crI 24))), (q39, .inl (G.2.1, 3, .inl (fun j => nI (fiS j)))), (q55, .inr (1, [.ref w61, .ref b61, .int (nI 0), .int (nI 0)])), (w61, .inl (G.2.1, 10, .inl (fun _ => nI 0))), (b61, .inl (G.2.1, 10, .inl (fun _ => nI 0))), (q68, .inr (1, [.ref w74, .ref b74, .int (nI 0), .int (nI 0)])), (w74, .inl (G.2.1, 10, .inl (fun _ => nI 0))), (b74, .inl (G.2.1, 10, .inl (fun _ => nI 0))), (q81, .inr (1, [.ref w86, .ref b86, .int (nI 0), .int (nI 0)])), (w86, .inl (G.2.1, 4, .inl (fun _ => nI 0))), (b86, .inl (G.2.1, 4, .inl (fun _ => nI 0))), (q93, .inr (1, [.ref w98, .ref b98, .int (nI 0), .int (nI 0)])), (w98, .inl (G.2.1, 4, .inl (fun _ => nI 0))), (b98, .inl (G.2.1, 4, .inl (fun _ => nI 0)))] := hD
    refine lv_aload_n hx hb dX3_init_104 rfl (lv_at hl 1 rfl) ?_
    refine va_new (ci := 4) (fs := [.null, .int (nI 0), .int (nI 0), .int (nI 0)]) (C := RX4) (T := TX4) (N := 4) hx hb hts w_18 tyX4 tyX4_ok hown w_19 w_20 w_21 hE.1 hP hD hS hA rfl (fun j hj => by rcases (show j = 0 ∨ j = 1 ∨ j = 2 ∨ j = 3 by omega) with rfl | rfl | rfl | rfl <;> rfl) (Nat.le_of_ble_eq_true rfl) (Nat.le_of_ble_eq_true rfl) dX3_init_105 (fun q105 H hP hD hS => ?_)
    refine W.widen (k := 15) (n := 103) (Nat.le_of_ble_eq_true rfl) (Nat.le_of_ble_eq_true rfl) ?_
    refine lv_dup hx hb dX3_init_108 rfl ?_
    have hFc := frC hD hS hA
    refine mcall (st1 := [.ref q105, .ref st]) (va_runI (As := []) (rest := [.ref q105, .ref st]) ⟨hx, hb, hml, hown, hts⟩ (c_X4_init l G q105 H.size) (cwI 0 hts gX3_init_X4_init rfl rfl rfl w_21 w_22 w_23 rfl (by decide +kernel) ⟨Nat.le_of_ble_eq_true rfl, Nat.le_of_ble_eq_true rfl⟩) (PC.preS hE ⟨rfl, P_last hP⟩) rfl rfl hl.1 rfl (lv_room (Nat.le_of_ble_eq_true rfl)) dX3_init_109 ⟨Nat.le_of_ble_eq_true rfl, Nat.le_of_ble_eq_true rfl⟩) hS (fun x _ h => hFc x h) hFc rfl (fun H1 locs1 hB hz1 hk1 hS => ?_)
    refine W.widen (k := 16) (n := 123) (Nat.le_of_ble_eq_true rfl) (Nat.le_of_ble_eq_true rfl) ?_
    obtain ⟨ww109, hP1, hD1⟩ := hB
    obtain ⟨hP, hD⟩ := jnC hP hD hFc hk1 hP1 hD1
    clear hP1 hD1 hFc
    generalize H1 = H at hP hS ⊢
    have hP : va_P G.1 vwCl [(st, .inr (3, [.ref q7, .ref q39, .ref q55, .ref q68, .ref q81, .ref q93, .null, .int (nI 0), .int (nI 0), .int (nI 0), .int (nI 0), .int (nI 0), .int (nI 0), .int (nI 0)])), (q7, .inl (G.2.1, 24, .inl (crI 24))), (q39, .inl (G.2.1, 3, .inl (fun j => nI (fiS j)))), (q55, .inr (1, [.ref w61, .ref b61, .int (nI 0), .int (nI 0)])), (w61, .inl (G.2.1, 10, .inl (fun _ => nI 0))), (b61, .inl (G.2.1, 10, .inl (fun _ => nI 0))), (q68, .inr (1, [.ref w74, .ref b74, .int (nI 0), .int (nI 0)])), (w74, .inl (G.2.1, 10, .inl (fun _ => nI 0))), (b74, .inl (G.2.1, 10, .inl (fun _ => nI 0))), (q81, .inr (1, [.ref w86, .ref b86, .int (nI 0), .int (nI 0)])), (w86, .inl (G.2.1, 4, .inl (fun _ => nI 0))), (b86, .inl (G.2.1, 4, .inl (fun _ => nI 0))), (q93, .inr (1, [.ref w98, .ref b98, .int (nI 0), .int (nI 0)])), (w98, .inl (G.2.1, 4, .inl (fun _ => nI 0))), (b98, .inl (G.2.1, 4, .inl (fun _ => nI 0))), (q105, .inr (4, [.ref ww109, .int (nI 0), .int (nI 0), .int (nI 40)])), (ww109, .inl (G.2.1, 20, .inl (fun _ => nI 0)))] H := hP
    have hD : va_D A [(st, .inr (3, [.ref q7, .ref q39, .ref q55, .ref q68, .ref q81, .ref q93, .null, .int (nI 0), .int (nI 0), .int (nI 0), .int (nI 0), .int (nI 0), .int (nI 0), .int (nI 0)])), (q7, .inl (G.2.1, 24, .inl (crI 24))), (q39, .inl (G.2.1, 3, .inl (fun j => nI (fiS j)))), (q55, .inr (1, [.ref w61, .ref b61, .int (nI 0), .int (nI 0)])), (w61, .inl (G.2.1, 10, .inl (fun _ => nI 0))), (b61, .inl (G.2.1, 10, .inl (fun _ => nI 0))), (q68, .inr (1, [.ref w74, .ref b74, .int (nI 0), .int (nI 0)])), (w74, .inl (G.2.1, 10, .inl (fun _ => nI 0))), (b74, .inl (G.2.1, 10, .inl (fun _ => nI 0))), (q81, .inr (1, [.ref w86, .ref b86, .int (nI 0), .int (nI 0)])), (w86, .inl (G.2.1, 4, .inl (fun _ => nI 0))), (b86, .inl (G.2.1, 4, .inl (fun _ => nI 0))), (q93, .inr (1, [.ref w98, .ref b98, .int (nI 0), .int (nI 0)])), (w98, .inl (G.2.1, 4, .inl (fun _ => nI 0))), (b98, .inl (G.2.1, 4, .inl (fun _ => nI 0))), (q105, .inr (4, [.ref ww109, .int (nI 0), .int (nI 0), .int (nI 40)])), (ww109, .inl (G.2.1, 20, .inl (fun _ => nI 0)))] := hD
    refine va_putF (D := G.1) (ci := 3) (v := .ref q105) (ty := .object "CableFerry$Wire") (C := RX3) (T := TX3) (N := 14) hx hb hts w_4 tyX3 tyX3_ok nmX3 hown hE.1 hP hD hS 0 rfl rfl 6 (by decide) w_24 (fun _ h9 => h9) rfl hin rfl (by decide +kernel) rfl rfl (Nat.le_of_ble_eq_true rfl) dX3_init_112 (fun H locs hP hD hS => ?_)
    have hP : va_P G.1 vwCl [(st, .inr (3, [.ref q7, .ref q39, .ref q55, .ref q68, .ref q81, .ref q93, .ref q105, .int (nI 0), .int (nI 0), .int (nI 0), .int (nI 0), .int (nI 0), .int (nI 0), .int (nI 0)])), (q7, .inl (G.2.1, 24, .inl (crI 24))), (q39, .inl (G.2.1, 3, .inl (fun j => nI (fiS j)))), (q55, .inr (1, [.ref w61, .ref b61, .int (nI 0), .int (nI 0)])), (w61, .inl (G.2.1, 10, .inl (fun _ => nI 0))), (b61, .inl (G.2.1, 10, .inl (fun _ => nI 0))), (q68, .inr (1, [.ref w74, .ref b74, .int (nI 0), .int (nI 0)])), (w74, .inl (G.2.1, 10, .inl (fun _ => nI 0))), (b74, .inl (G.2.1, 10, .inl (fun _ => nI 0))), (q81, .inr (1, [.ref w86, .ref b86, .int (nI 0), .int (nI 0)])), (w86, .inl (G.2.1, 4, .inl (fun _ => nI 0))), (b86, .inl (G.2.1, 4, .inl (fun _ => nI 0))), (q93, .inr (1, [.ref w98, .ref b98, .int (nI 0), .int (nI 0)])), (w98, .inl (G.2.1, 4, .inl (fun _ => nI 0))), (b98, .inl (G.2.1, 4, .inl (fun _ => nI 0))), (q105, .inr (4, [.ref ww109, .int (nI 0), .int (nI 0), .int (nI 40)])), (ww109, .inl (G.2.1, 20, .inl (fun _ => nI 0)))] H := hP
    have hD : va_D A [(st, .inr (3, [.ref q7, .ref q39, .ref q55, .ref q68, .ref q81, .ref q93, .ref q105, .int (nI 0), .int (nI 0), .int (nI 0), .int (nI 0), .int (nI 0), .int (nI 0), .int (nI 0)])), (q7, .inl (G.2.1, 24, .inl (crI 24))), (q39, .inl (G.2.1, 3, .inl (fun j => nI (fiS j)))), (q55, .inr (1, [.ref w61, .ref b61, .int (nI 0), .int (nI 0)])), (w61, .inl (G.2.1, 10, .inl (fun _ => nI 0))), (b61, .inl (G.2.1, 10, .inl (fun _ => nI 0))), (q68, .inr (1, [.ref w74, .ref b74, .int (nI 0), .int (nI 0)])), (w74, .inl (G.2.1, 10, .inl (fun _ => nI 0))), (b74, .inl (G.2.1, 10, .inl (fun _ => nI 0))), (q81, .inr (1, [.ref w86, .ref b86, .int (nI 0), .int (nI 0)])), (w86, .inl (G.2.1, 4, .inl (fun _ => nI 0))), (b86, .inl (G.2.1, 4, .inl (fun _ => nI 0))), (q93, .inr (1, [.ref w98, .ref b98, .int (nI 0), .int (nI 0)])), (w98, .inl (G.2.1, 4, .inl (fun _ => nI 0))), (b98, .inl (G.2.1, 4, .inl (fun _ => nI 0))), (q105, .inr (4, [.ref ww109, .int (nI 0), .int (nI 0), .int (nI 40)])), (ww109, .inl (G.2.1, 20, .inl (fun _ => nI 0)))] := hD
    replace hP := P_ext (ws' := [(st, .inr (3, [.ref q7, .ref q39, .ref q55, .ref q68, .ref q81, .ref q93, .ref q105, .int (nI 0), .int (nI 0), .int (nI 0), .int (nI 0), .int (nI 0), .int (nI 0), .int (nI 0)])), (q7, .inl (G.2.1, 24, .inl (fun j => fI (3 + j)))), (q39, .inl (G.2.1, 3, .inl (fun j => nI (fiS j)))), (q55, .inr (1, [.ref w61, .ref b61, .int (nI 0), .int (nI 0)])), (w61, .inl (G.2.1, 10, .inl (fun _ => nI 0))), (b61, .inl (G.2.1, 10, .inl (fun _ => nI 0))), (q68, .inr (1, [.ref w74, .ref b74, .int (nI 0), .int (nI 0)])), (w74, .inl (G.2.1, 10, .inl (fun _ => nI 0))), (b74, .inl (G.2.1, 10, .inl (fun _ => nI 0))), (q81, .inr (1, [.ref w86, .ref b86, .int (nI 0), .int (nI 0)])), (w86, .inl (G.2.1, 4, .inl (fun _ => nI 0))), (b86, .inl (G.2.1, 4, .inl (fun _ => nI 0))), (q93, .inr (1, [.ref w98, .ref b98, .int (nI 0), .int (nI 0)])), (w98, .inl (G.2.1, 4, .inl (fun _ => nI 0))), (b98, .inl (G.2.1, 4, .inl (fun _ => nI 0))), (q105, .inr (4, [.ref ww109, .int (nI 0), .int (nI 0), .int (nI 40)])), (ww109, .inl (G.2.1, 20, .inl (fun _ => nI 0)))]) (g := fun j => fI (3 + j)) 1 rfl rfl crI_f hP
    replace hD := va_D.set (p := 1) (e := .inl (G.2.1, 24, .inl (fun j => fI (3 + j)))) hD rfl
    have hP : va_P G.1 vwCl [(st, .inr (3, [.ref q7, .ref q39, .ref q55, .ref q68, .ref q81, .ref q93, .ref q105, .int (nI 0), .int (nI 0), .int (nI 0), .int (nI 0), .int (nI 0), .int (nI 0), .int (nI 0)])), (q7, .inl (G.2.1, 24, .inl (fun j => fI (3 + j)))), (q39, .inl (G.2.1, 3, .inl (fun j => nI (fiS j)))), (q55, .inr (1, [.ref w61, .ref b61, .int (nI 0), .int (nI 0)])), (w61, .inl (G.2.1, 10, .inl (fun _ => nI 0))), (b61, .inl (G.2.1, 10, .inl (fun _ => nI 0))), (q68, .inr (1, [.ref w74, .ref b74, .int (nI 0), .int (nI 0)])), (w74, .inl (G.2.1, 10, .inl (fun _ => nI 0))), (b74, .inl (G.2.1, 10, .inl (fun _ => nI 0))), (q81, .inr (1, [.ref w86, .ref b86, .int (nI 0), .int (nI 0)])), (w86, .inl (G.2.1, 4, .inl (fun _ => nI 0))), (b86, .inl (G.2.1, 4, .inl (fun _ => nI 0))), (q93, .inr (1, [.ref w98, .ref b98, .int (nI 0), .int (nI 0)])), (w98, .inl (G.2.1, 4, .inl (fun _ => nI 0))), (b98, .inl (G.2.1, 4, .inl (fun _ => nI 0))), (q105, .inr (4, [.ref ww109, .int (nI 0), .int (nI 0), .int (nI 40)])), (ww109, .inl (G.2.1, 20, .inl (fun _ => nI 0)))] H := hP
    have hD : va_D A [(st, .inr (3, [.ref q7, .ref q39, .ref q55, .ref q68, .ref q81, .ref q93, .ref q105, .int (nI 0), .int (nI 0), .int (nI 0), .int (nI 0), .int (nI 0), .int (nI 0), .int (nI 0)])), (q7, .inl (G.2.1, 24, .inl (fun j => fI (3 + j)))), (q39, .inl (G.2.1, 3, .inl (fun j => nI (fiS j)))), (q55, .inr (1, [.ref w61, .ref b61, .int (nI 0), .int (nI 0)])), (w61, .inl (G.2.1, 10, .inl (fun _ => nI 0))), (b61, .inl (G.2.1, 10, .inl (fun _ => nI 0))), (q68, .inr (1, [.ref w74, .ref b74, .int (nI 0), .int (nI 0)])), (w74, .inl (G.2.1, 10, .inl (fun _ => nI 0))), (b74, .inl (G.2.1, 10, .inl (fun _ => nI 0))), (q81, .inr (1, [.ref w86, .ref b86, .int (nI 0), .int (nI 0)])), (w86, .inl (G.2.1, 4, .inl (fun _ => nI 0))), (b86, .inl (G.2.1, 4, .inl (fun _ => nI 0))), (q93, .inr (1, [.ref w98, .ref b98, .int (nI 0), .int (nI 0)])), (w98, .inl (G.2.1, 4, .inl (fun _ => nI 0))), (b98, .inl (G.2.1, 4, .inl (fun _ => nI 0))), (q105, .inr (4, [.ref ww109, .int (nI 0), .int (nI 0), .int (nI 40)])), (ww109, .inl (G.2.1, 20, .inl (fun _ => nI 0)))] := hD
    replace hP := P_ext (ws' := [(st, .inr (3, [.ref q7, .ref q39, .ref q55, .ref q68, .ref q81, .ref q93, .ref q105, .int (nI 0), .int (nI 0), .int (nI 0), .int (nI 0), .int (nI 0), .int (nI 0), .int (nI 0)])), (q7, .inl (G.2.1, 24, .inl (fun j => fI (3 + j)))), (q39, .inl (G.2.1, 3, .inl fI)), (q55, .inr (1, [.ref w61, .ref b61, .int (nI 0), .int (nI 0)])), (w61, .inl (G.2.1, 10, .inl (fun _ => nI 0))), (b61, .inl (G.2.1, 10, .inl (fun _ => nI 0))), (q68, .inr (1, [.ref w74, .ref b74, .int (nI 0), .int (nI 0)])), (w74, .inl (G.2.1, 10, .inl (fun _ => nI 0))), (b74, .inl (G.2.1, 10, .inl (fun _ => nI 0))), (q81, .inr (1, [.ref w86, .ref b86, .int (nI 0), .int (nI 0)])), (w86, .inl (G.2.1, 4, .inl (fun _ => nI 0))), (b86, .inl (G.2.1, 4, .inl (fun _ => nI 0))), (q93, .inr (1, [.ref w98, .ref b98, .int (nI 0), .int (nI 0)])), (w98, .inl (G.2.1, 4, .inl (fun _ => nI 0))), (b98, .inl (G.2.1, 4, .inl (fun _ => nI 0))), (q105, .inr (4, [.ref ww109, .int (nI 0), .int (nI 0), .int (nI 40)])), (ww109, .inl (G.2.1, 20, .inl (fun _ => nI 0)))]) (g := fI) 2 rfl rfl fiS_f hP
    replace hD := va_D.set (p := 2) (e := .inl (G.2.1, 3, .inl fI)) hD rfl
    have hP : va_P G.1 vwCl [(st, .inr (3, [.ref q7, .ref q39, .ref q55, .ref q68, .ref q81, .ref q93, .ref q105, .int (nI 0), .int (nI 0), .int (nI 0), .int (nI 0), .int (nI 0), .int (nI 0), .int (nI 0)])), (q7, .inl (G.2.1, 24, .inl (fun j => fI (3 + j)))), (q39, .inl (G.2.1, 3, .inl fI)), (q55, .inr (1, [.ref w61, .ref b61, .int (nI 0), .int (nI 0)])), (w61, .inl (G.2.1, 10, .inl (fun _ => nI 0))), (b61, .inl (G.2.1, 10, .inl (fun _ => nI 0))), (q68, .inr (1, [.ref w74, .ref b74, .int (nI 0), .int (nI 0)])), (w74, .inl (G.2.1, 10, .inl (fun _ => nI 0))), (b74, .inl (G.2.1, 10, .inl (fun _ => nI 0))), (q81, .inr (1, [.ref w86, .ref b86, .int (nI 0), .int (nI 0)])), (w86, .inl (G.2.1, 4, .inl (fun _ => nI 0))), (b86, .inl (G.2.1, 4, .inl (fun _ => nI 0))), (q93, .inr (1, [.ref w98, .ref b98, .int (nI 0), .int (nI 0)])), (w98, .inl (G.2.1, 4, .inl (fun _ => nI 0))), (b98, .inl (G.2.1, 4, .inl (fun _ => nI 0))), (q105, .inr (4, [.ref ww109, .int (nI 0), .int (nI 0), .int (nI 40)])), (ww109, .inl (G.2.1, 20, .inl (fun _ => nI 0)))] H := hP
    have hD : va_D A [(st, .inr (3, [.ref q7, .ref q39, .ref q55, .ref q68, .ref q81, .ref q93, .ref q105, .int (nI 0), .int (nI 0), .int (nI 0), .int (nI 0), .int (nI 0), .int (nI 0), .int (nI 0)])), (q7, .inl (G.2.1, 24, .inl (fun j => fI (3 + j)))), (q39, .inl (G.2.1, 3, .inl fI)), (q55, .inr (1, [.ref w61, .ref b61, .int (nI 0), .int (nI 0)])), (w61, .inl (G.2.1, 10, .inl (fun _ => nI 0))), (b61, .inl (G.2.1, 10, .inl (fun _ => nI 0))), (q68, .inr (1, [.ref w74, .ref b74, .int (nI 0), .int (nI 0)])), (w74, .inl (G.2.1, 10, .inl (fun _ => nI 0))), (b74, .inl (G.2.1, 10, .inl (fun _ => nI 0))), (q81, .inr (1, [.ref w86, .ref b86, .int (nI 0), .int (nI 0)])), (w86, .inl (G.2.1, 4, .inl (fun _ => nI 0))), (b86, .inl (G.2.1, 4, .inl (fun _ => nI 0))), (q93, .inr (1, [.ref w98, .ref b98, .int (nI 0), .int (nI 0)])), (w98, .inl (G.2.1, 4, .inl (fun _ => nI 0))), (b98, .inl (G.2.1, 4, .inl (fun _ => nI 0))), (q105, .inr (4, [.ref ww109, .int (nI 0), .int (nI 0), .int (nI 40)])), (ww109, .inl (G.2.1, 20, .inl (fun _ => nI 0)))] := hD
    replace hP := P_ext (ws' := [(st, .inr (3, [.ref q7, .ref q39, .ref q55, .ref q68, .ref q81, .ref q93, .ref q105, .int (nI 0), .int (nI 0), .int (nI 0), .int (nI 0), .int (nI 0), .int (nI 0), .int (nI 0)])), (q7, .inl (G.2.1, 24, .inl (fun j => fI (3 + j)))), (q39, .inl (G.2.1, 3, .inl fI)), (q55, .inr (1, [.ref w61, .ref b61, .int (nI 0), .int (nI 0)])), (w61, .inl (G.2.1, 10, .inl (fun _ => nI 0))), (b61, .inl (G.2.1, 10, .inl (fun _ => nI 0))), (q68, .inr (1, [.ref w74, .ref b74, .int (nI 0), .int (nI 0)])), (w74, .inl (G.2.1, 10, .inl (fun _ => nI 0))), (b74, .inl (G.2.1, 10, .inl (fun _ => nI 0))), (q81, .inr (1, [.ref w86, .ref b86, .int (nI 0), .int (nI 0)])), (w86, .inl (G.2.1, 4, .inl (fun _ => nI 0))), (b86, .inl (G.2.1, 4, .inl (fun _ => nI 0))), (q93, .inr (1, [.ref w98, .ref b98, .int (nI 0), .int (nI 0)])), (w98, .inl (G.2.1, 4, .inl (fun _ => nI 0))), (b98, .inl (G.2.1, 4, .inl (fun _ => nI 0))), (q105, .inr (4, [.ref ww109, .int (nI 0), .int (nI 0), .int (nI 40)])), (ww109, .inl (G.2.1, 20, .inl (fun j => fI (27 + j))))]) (g := fun j => fI (27 + j)) 16 rfl rfl zz_f hP
    replace hD := va_D.set (p := 16) (e := .inl (G.2.1, 20, .inl (fun j => fI (27 + j)))) hD rfl
    have hP : va_P G.1 vwCl [(st, .inr (3, [.ref q7, .ref q39, .ref q55, .ref q68, .ref q81, .ref q93, .ref q105, .int (nI 0), .int (nI 0), .int (nI 0), .int (nI 0), .int (nI 0), .int (nI 0), .int (nI 0)])), (q7, .inl (G.2.1, 24, .inl (fun j => fI (3 + j)))), (q39, .inl (G.2.1, 3, .inl fI)), (q55, .inr (1, [.ref w61, .ref b61, .int (nI 0), .int (nI 0)])), (w61, .inl (G.2.1, 10, .inl (fun _ => nI 0))), (b61, .inl (G.2.1, 10, .inl (fun _ => nI 0))), (q68, .inr (1, [.ref w74, .ref b74, .int (nI 0), .int (nI 0)])), (w74, .inl (G.2.1, 10, .inl (fun _ => nI 0))), (b74, .inl (G.2.1, 10, .inl (fun _ => nI 0))), (q81, .inr (1, [.ref w86, .ref b86, .int (nI 0), .int (nI 0)])), (w86, .inl (G.2.1, 4, .inl (fun _ => nI 0))), (b86, .inl (G.2.1, 4, .inl (fun _ => nI 0))), (q93, .inr (1, [.ref w98, .ref b98, .int (nI 0), .int (nI 0)])), (w98, .inl (G.2.1, 4, .inl (fun _ => nI 0))), (b98, .inl (G.2.1, 4, .inl (fun _ => nI 0))), (q105, .inr (4, [.ref ww109, .int (nI 0), .int (nI 0), .int (nI 40)])), (ww109, .inl (G.2.1, 20, .inl (fun j => fI (27 + j))))] H := hP
    have hD : va_D A [(st, .inr (3, [.ref q7, .ref q39, .ref q55, .ref q68, .ref q81, .ref q93, .ref q105, .int (nI 0), .int (nI 0), .int (nI 0), .int (nI 0), .int (nI 0), .int (nI 0), .int (nI 0)])), (q7, .inl (G.2.1, 24, .inl (fun j => fI (3 + j)))), (q39, .inl (G.2.1, 3, .inl fI)), (q55, .inr (1, [.ref w61, .ref b61, .int (nI 0), .int (nI 0)])), (w61, .inl (G.2.1, 10, .inl (fun _ => nI 0))), (b61, .inl (G.2.1, 10, .inl (fun _ => nI 0))), (q68, .inr (1, [.ref w74, .ref b74, .int (nI 0), .int (nI 0)])), (w74, .inl (G.2.1, 10, .inl (fun _ => nI 0))), (b74, .inl (G.2.1, 10, .inl (fun _ => nI 0))), (q81, .inr (1, [.ref w86, .ref b86, .int (nI 0), .int (nI 0)])), (w86, .inl (G.2.1, 4, .inl (fun _ => nI 0))), (b86, .inl (G.2.1, 4, .inl (fun _ => nI 0))), (q93, .inr (1, [.ref w98, .ref b98, .int (nI 0), .int (nI 0)])), (w98, .inl (G.2.1, 4, .inl (fun _ => nI 0))), (b98, .inl (G.2.1, 4, .inl (fun _ => nI 0))), (q105, .inr (4, [.ref ww109, .int (nI 0), .int (nI 0), .int (nI 40)])), (ww109, .inl (G.2.1, 20, .inl (fun j => fI (27 + j))))] := hD
    refine W.widen (k := 16) (n := 123) (Nat.le_of_ble_eq_true rfl) (Nat.le_of_ble_eq_true rfl) ?_
    exact W.vret hx hb hr (fun t ht hW => ⟨rfl, by rw [ht]; exact ⟨fun k => [st, q7, q39, q55, w61, b61, q68, w74, b74, q81, w86, b86, q93, w98, b98, q105, ww109].getD k 0, rfl, by rw [cST_I]; exact hP, by rw [cST_I]; exact hD⟩, hS.F ht⟩) hS.2.2 dX3_init_115
  · skip
    refine lv_aload_n hx hb dX3_init_23 rfl (lv_at hl 1 rfl) ?_
    refine va_get (D := G.1) (ci := 3) (v := .ref q7) (C := RX3) (T := TX3) (N := 14) hx hb hts w_4 hown hE.1 hP 0 rfl rfl 0 (by decide) w_5 (fun _ h9 => h9) rfl dX3_init_24 ?_
    refine lv_iload_n hx hb dX3_init_27 rfl (lv_at hl 0 rfl) ?_
    refine lv_bipush (v := nI 10) hx hb dX3_init_28 (by decide +kernel) ?_
    refine iastN (k := i) hx hb hE.1 hP hD hS 1 0 rfl rfl (by omega) (by decide) dX3_init_30 (fun H locs hP hD hS => ?_)
    have hP : va_P G.1 vwCl [(st, .inr (3, [.ref q7, .null, .null, .null, .null, .null, .null, .int (nI 0), .int (nI 0), .int (nI 0), .int (nI 0), .int (nI 0), .int (nI 0), .int (nI 0)])), (q7, .inl (G.2.1, 24, .inl (upd (crI i) i (nI 10))))] H := hP
    have hD : va_D A [(st, .inr (3, [.ref q7, .null, .null, .null, .null, .null, .null, .int (nI 0), .int (nI 0), .int (nI 0), .int (nI 0), .int (nI 0), .int (nI 0), .int (nI 0)])), (q7, .inl (G.2.1, 24, .inl (upd (crI i) i (nI 10))))] := hD
    refine lv_iinc (v := nI (i + 1)) (lv' := [(1, .int (nI (i + 1))), (0, .ref st)]) hx hb dX3_init_31 hl (k := 0) rfl (nI_inc1 _) (by decide) rfl (fun ls hl => ?_)
    refine lv_goto (tgt := 14) hx hb dX3_init_34 (by decide) ?_
    exact ih14 (i + 1) _ _ _ (by omega) (by (try dsimp only); rw [crI_s] at hP hD; exact ⟨hP, hD, hS⟩) (lv_sub hl [0, 1] rfl) (by (try dsimp only); omega)
set_option maxHeartbeats 4000000 in
set_option maxRecDepth 100000 in
theorem c_X0_init (l : Launch) (G : eG) (lo : Nat) (ha sz : Nat) (hlo : lo ≤ ha) (hlz : lo ≤ sz) : Met l yX0_init wsX0_init ({ frames := 3, cells := 103, slots := 828, locals := 82 }) (PF lo [.ref ha] G (fun H => H.size = sz ∧ va_P G.1 vwCl [(ha, .inr (0, [.null, .int (nI 0), .int (nI 0)]))] H)) (MV none (fun H => ∃ (sv : Nat) (aa : Nat → Nat → Nat), va_P G.1 vwCl (cHI G ha sv 0 0 (fun k => aa k 0) ++ (cST G (aa 0) fI (nI 0) (nI 0) (fun _ _ => nI 0) ++ (cST G (aa 1) fI (nI 0) (nI 0) (fun _ _ => nI 0) ++ (cST G (aa 2) fI (nI 0) (nI 0) (fun _ _ => nI 0) ++ (cST G (aa 3) fI (nI 0) (nI 0) (fun _ _ => nI 0) ++ (cST G (aa 4) fI (nI 0) (nI 0) (fun _ _ => nI 0) ++ (cST G (aa 5) fI (nI 0) (nI 0) (fun _ _ => nI 0) ++ ([])))))))) H ∧ va_D (va_A [(ha, .inr (0, [.null, .int (nI 0), .int (nI 0)]))] sz) (cHI G ha sv 0 0 (fun k => aa k 0) ++ (cST G (aa 0) fI (nI 0) (nI 0) (fun _ _ => nI 0) ++ (cST G (aa 1) fI (nI 0) (nI 0) (fun _ _ => nI 0) ++ (cST G (aa 2) fI (nI 0) (nI 0) (fun _ _ => nI 0) ++ (cST G (aa 3) fI (nI 0) (nI 0) (fun _ _ => nI 0) ++ (cST G (aa 4) fI (nI 0) (nI 0) (fun _ _ => nI 0) ++ (cST G (aa 5) fI (nI 0) (nI 0) (fun _ _ => nI 0) ++ ([]))))))))) (va_A [(ha, .inr (0, [.null, .int (nI 0), .int (nI 0)]))] sz)) 103 828 (va_A [(ha, .inr (0, [.null, .int (nI 0), .int (nI 0)]))] sz) := by
  refine ofBFX (cc := cX0_init) (maxL := 2) (ret := none) (by decide) rfl (Nat.le_of_ble_eq_true rfl) ?_
  intro p e s m below meth c hx hb hr hlocks hml hown hin hts hE hF0 hI ls hl
  replace hown : s.vm.findClass RX0 = some m.cls := hown
  have hl : lv_has ls 2 [(0, .ref ha)] := hl
  obtain ⟨hsz, hP⟩ := hI
  subst hsz
  have hD : va_D (va_A [(ha, .inr (0, [.null, .int (nI 0), .int (nI 0)]))] s.heap.size) [(ha, .inr (0, [.null, .int (nI 0), .int (nI 0)]))] := D_one (A_one.mpr (Or.inl rfl))
  have hA : ∀ q, s.heap.size ≤ q → va_A [(ha, .inr (0, [.null, .int (nI 0), .int (nI 0)]))] s.heap.size q := fun q h => Or.inr h
  have hAl : ∀ q, va_A [(ha, .inr (0, [.null, .int (nI 0), .int (nI 0)]))] s.heap.size q → lo ≤ q := fun q h => by
    rcases A_one.mp h with h | h
    · rw [h]; exact hlo
    · exact Nat.le_trans hlz h
  obtain ⟨A, hAe⟩ : ∃ A, A = va_A [(ha, .inr (0, [.null, .int (nI 0), .int (nI 0)]))] s.heap.size := ⟨_, rfl⟩
  rw [← hAe] at hD hA hAl ⊢
  have hS : va_S A s.heap s.heap [] := va_S.rf
  obtain ⟨H, hHe⟩ : ∃ H, H = s.heap := ⟨_, rfl⟩
  obtain ⟨locs, hle⟩ : ∃ q : List Loc, q = [] := ⟨_, rfl⟩
  rw [← hle] at hS ⊢
  have hP : va_P G.1 vwCl [(ha, .inr (0, [.null, .int (nI 0), .int (nI 0)]))] H := by rw [hHe]; exact hP
  replace hS : va_S A s.heap H locs := by rw [hHe]; exact hS
  refine tH hHe ?_
  have w_0 := hts (.methodLink RX0 3 objectInit) (by decide +kernel)
  have w_1 := hts (.instanceMethod objectInit) (by decide +kernel)
  have w_2 := hts (.code objectInit ⟨#[0xb1]⟩ 1 none) (by decide +kernel)
  have w_3 := hts (.classLink RX0 9 RX3) (by decide +kernel)
  have w_4 : ∀ w ∈ u_ws RX0 TX0 3, w ∈ wsX0_init := by decide +kernel
  have w_5 := hts (.fieldLink RX0 11 "CableFerry$History" "saved" "[LCableFerry$State;") (by decide +kernel)
  have w_6 : ∀ w ∈ u_ws RX3 TX3 14, w ∈ wsX0_init := by decide +kernel
  have w_7 := hts (.instantiable RX3 14) (by decide +kernel)
  have w_8 := hts (.initialized RX3) (by decide +kernel)
  have w_9 := hts (.methodLink RX0 17 yX3_init) (by decide +kernel)
  have w_10 := hts (.instanceMethod yX3_init) (by decide +kernel)
  have w_11 := hts (.fieldLink RX0 18 "CableFerry$History" "oldest" "I") (by decide +kernel)
  have w_12 := hts (.fieldLink RX0 22 "CableFerry$History" "size" "I") (by decide +kernel)
  refine lv_aload_n hx hb dX0_init_0 rfl (lv_at hl 0 rfl) ?_
  refine W.objInit hx hb hown w_0 w_1 w_2 rfl (hl.1.trans hml.symm) rfl dX0_init_1 (Nat.le_of_ble_eq_true rfl) (Nat.le_of_ble_eq_true rfl) ?_
  refine W.eq (g2 := F0 m 4 ls []) rfl ?_
  refine lv_aload_n hx hb dX0_init_4 rfl (lv_at hl 0 rfl) ?_
  refine lv_bipush (v := nI 6) hx hb dX0_init_5 (by decide +kernel) ?_
  refine va_newq (C := "CableFerry$State") (N' := 6) hx hb hown w_3 hF0.1 hE.1 hP hD hS hA (nI_pos (by decide)) (nI_clamp (by decide)) (by decide) (Nat.le_of_ble_eq_true rfl) (Nat.le_of_ble_eq_true rfl) dX0_init_7 (fun q7 cA H hN hP hD hS => ?_)
  obtain rfl := naQ hE.1 hN
  clear hN
  refine W.widen (k := 1) (n := 6) (Nat.le_of_ble_eq_true rfl) (Nat.le_of_ble_eq_true rfl) ?_
  have hP : va_P G.1 vwCl [(ha, .inr (0, [.null, .int (nI 0), .int (nI 0)])), (q7, .inl (G.2.2, 6, .inr (.inr (.inr (.inr (fun _ => none))))))] H := hP
  have hD : va_D A [(ha, .inr (0, [.null, .int (nI 0), .int (nI 0)])), (q7, .inl (G.2.2, 6, .inr (.inr (.inr (.inr (fun _ => none))))))] := hD
  refine va_putF (D := G.1) (ci := 0) (v := .ref q7) (ty := .array (.object "CableFerry$State")) (C := RX0) (T := TX0) (N := 3) hx hb hts w_4 tyX0 tyX0_ok nmX0 hown hE.1 hP hD hS 0 rfl rfl 0 (by decide) w_5 (fun _ h9 => h9) rfl hin rfl (by decide +kernel) rfl rfl (Nat.le_of_ble_eq_true rfl) dX0_init_10 (fun H locs hP hD hS => ?_)
  have hP : va_P G.1 vwCl [(ha, .inr (0, [.ref q7, .int (nI 0), .int (nI 0)])), (q7, .inl (G.2.2, 6, .inr (.inr (.inr (.inr (fun _ => none))))))] H := hP
  have hD : va_D A [(ha, .inr (0, [.ref q7, .int (nI 0), .int (nI 0)])), (q7, .inl (G.2.2, 6, .inr (.inr (.inr (.inr (fun _ => none))))))] := hD
  replace hP : va_P G.1 vwCl ([(ha, .inr (0, [.ref q7, .int (nI 0), .int (nI 0)])), (q7, .inl (G.2.2, 6, .inr (.inr (.inr (.inr (fun _ => none))))))] ++ ([])) H := by simpa only [List.append_assoc, List.nil_append, List.append_nil] using hP
  replace hD : va_D A ([(ha, .inr (0, [.ref q7, .int (nI 0), .int (nI 0)])), (q7, .inl (G.2.2, 6, .inr (.inr (.inr (.inr (fun _ => none))))))] ++ ([])) := by simpa only [List.append_assoc, List.nil_append, List.append_nil] using hD
  refine lv_iconst (v := nI 0) hx hb dX0_init_13 (by decide +kernel) ?_
  refine lv_istore_n (lv' := [(1, .int (nI 0)), (0, .ref ha)]) hx hb dX0_init_14 rfl hl (by decide) rfl (fun ls hl => ?_)
  refine lv_iload_n hx hb dX0_init_15 rfl (lv_at hl 0 rfl) ?_
  refine lv_aload_n hx hb dX0_init_16 rfl (lv_at hl 1 rfl) ?_
  refine va_get (D := G.1) (ci := 0) (v := .ref q7) (C := RX0) (T := TX0) (N := 3) hx hb hts w_4 hown hE.1 hP 0 rfl rfl 0 (by decide) w_5 (fun _ h9 => h9) rfl dX0_init_17 ?_
  refine va_alen (v := nI 6) hx hb hE.1 hP 1 1 rfl rfl rfl dX0_init_20 ?_
  refine icmp_geN (tgt := 43) hx hb (by omega) (by omega) dX0_init_21 (by decide) (fun c21 => ?_) (fun c21 => ?_)
  · skip
    omega
  · skip
    refine lv_aload_n hx hb dX0_init_24 rfl (lv_at hl 1 rfl) ?_
    refine va_get (D := G.1) (ci := 0) (v := .ref q7) (C := RX0) (T := TX0) (N := 3) hx hb hts w_4 hown hE.1 hP 0 rfl rfl 0 (by decide) w_5 (fun _ h9 => h9) rfl dX0_init_25 ?_
    refine lv_iload_n hx hb dX0_init_28 rfl (lv_at hl 0 rfl) ?_
    refine va_new (ci := 3) (fs := [.null, .null, .null, .null, .null, .null, .null, .int (nI 0), .int (nI 0), .int (nI 0), .int (nI 0), .int (nI 0), .int (nI 0), .int (nI 0)]) (C := RX3) (T := TX3) (N := 14) hx hb hts w_6 tyX3 tyX3_ok hown w_3 w_7 w_8 hE.1 hP hD hS hA rfl (fun j hj => by rcases (show j = 0 ∨ j = 1 ∨ j = 2 ∨ j = 3 ∨ j = 4 ∨ j = 5 ∨ j = 6 ∨ j = 7 ∨ j = 8 ∨ j = 9 ∨ j = 10 ∨ j = 11 ∨ j = 12 ∨ j = 13 by omega) with rfl | rfl | rfl | rfl | rfl | rfl | rfl | rfl | rfl | rfl | rfl | rfl | rfl | rfl <;> rfl) (Nat.le_of_ble_eq_true rfl) (Nat.le_of_ble_eq_true rfl) dX0_init_29 (fun q29_0 H hP hD hS => ?_)
    refine W.widen (k := 2) (n := 20) (Nat.le_of_ble_eq_true rfl) (Nat.le_of_ble_eq_true rfl) ?_
    refine lv_dup hx hb dX0_init_32 rfl ?_
    have hFc := frC hD hS hA
    refine mcall (st1 := [.ref q29_0, .int (nI 0), .ref q7]) (va_runI (As := []) (rest := [.ref q29_0, .int (nI 0), .ref q7]) ⟨hx, hb, hml, hown, hts⟩ (c_X3_init l G lo q29_0 H.size (hAl _ (D_last hD)) (Nat.le_trans hlz hS.1)) (cwI 0 hts gX0_init_X3_init rfl rfl rfl w_8 w_9 w_10 rfl (by decide +kernel) ⟨Nat.le_of_ble_eq_true rfl, Nat.le_of_ble_eq_true rfl⟩) (PF.preS hE (hF0.kept (fun a h1 h2 => hS.2.1 a h1 (fun h => h2 (hAl a h)))) ⟨rfl, P_last hP⟩) rfl rfl hl.1 rfl (lv_room (Nat.le_of_ble_eq_true rfl)) dX0_init_33 ⟨Nat.le_of_ble_eq_true rfl, Nat.le_of_ble_eq_true rfl⟩) hS (fun x _ h => hFc x h) hFc rfl (fun H1 locs1 hB hz1 hk1 hS => ?_)
    refine W.widen (k := 18) (n := 143) (Nat.le_of_ble_eq_true rfl) (Nat.le_of_ble_eq_true rfl) ?_
    obtain ⟨an33_0, ea33_0, hP1, hD1⟩ := hB
    obtain ⟨hP, hD⟩ := jnC hP hD hFc hk1 hP1 hD1
    clear hP1 hD1 hFc
    generalize H1 = H at hP hS ⊢
    replace hP : va_P G.1 vwCl ([(ha, .inr (0, [.ref q7, .int (nI 0), .int (nI 0)])), (q7, .inl (G.2.2, 6, .inr (.inr (.inr (.inr (fun _ => none))))))] ++ (cST G an33_0 fI (nI 0) (nI 0) (fun _ _ => nI 0) ++ ([]))) H := by simpa only [List.append_assoc, List.nil_append, List.append_nil] using hP
    replace hD : va_D A ([(ha, .inr (0, [.ref q7, .int (nI 0), .int (nI 0)])), (q7, .inl (G.2.2, 6, .inr (.inr (.inr (.inr (fun _ => none))))))] ++ (cST G an33_0 fI (nI 0) (nI 0) (fun _ _ => nI 0) ++ ([]))) := by simpa only [List.append_assoc, List.nil_append, List.append_nil] using hD
    refine tS (st' := [.ref (an33_0 0), .int (nI 0), .ref q7]) (by rw [ea33_0]) ?_
    refine va_astq (r := (RX3, TX3, 14)) hx hb hE.1 hP hD hS 1 1 2 3 rfl rfl rfl rfl (vp_in_nI (n := 0) (N := 6) (by decide) (by decide)) dX0_init_36 (fun H locs hP hD hS => ?_)
    rw [nI_clamp (by decide)] at hP hD
    have hP : va_P G.1 vwCl ([(ha, .inr (0, [.ref q7, .int (nI 0), .int (nI 0)])), (q7, .inl (G.2.2, 6, .inr (.inr (.inr (.inr (va_up (fun _ => none) 0 (some (an33_0 0))))))))] ++ (cST G an33_0 fI (nI 0) (nI 0) (fun _ _ => nI 0) ++ ([]))) H := hP
    have hD : va_D A ([(ha, .inr (0, [.ref q7, .int (nI 0), .int (nI 0)])), (q7, .inl (G.2.2, 6, .inr (.inr (.inr (.inr (va_up (fun _ => none) 0 (some (an33_0 0))))))))] ++ (cST G an33_0 fI (nI 0) (nI 0) (fun _ _ => nI 0) ++ ([]))) := hD
    refine lv_iinc (v := nI 1) (lv' := [(1, .int (nI 1)), (0, .ref ha)]) hx hb dX0_init_37 hl (k := 0) rfl (nI_inc1 _) (by decide) rfl (fun ls hl => ?_)
    refine lv_goto (tgt := 15) hx hb dX0_init_40 (by decide) ?_
    refine lv_iload_n hx hb dX0_init_15 rfl (lv_at hl 0 rfl) ?_
    refine lv_aload_n hx hb dX0_init_16 rfl (lv_at hl 1 rfl) ?_
    refine va_get (D := G.1) (ci := 0) (v := .ref q7) (C := RX0) (T := TX0) (N := 3) hx hb hts w_4 hown hE.1 hP 0 rfl rfl 0 (by decide) w_5 (fun _ h9 => h9) rfl dX0_init_17 ?_
    refine va_alen (v := nI 6) hx hb hE.1 hP 1 1 rfl rfl rfl dX0_init_20 ?_
    refine icmp_geN (tgt := 43) hx hb (by omega) (by omega) dX0_init_21 (by decide) (fun c21 => ?_) (fun c21 => ?_)
    · skip
      omega
    · skip
      refine lv_aload_n hx hb dX0_init_24 rfl (lv_at hl 1 rfl) ?_
      refine va_get (D := G.1) (ci := 0) (v := .ref q7) (C := RX0) (T := TX0) (N := 3) hx hb hts w_4 hown hE.1 hP 0 rfl rfl 0 (by decide) w_5 (fun _ h9 => h9) rfl dX0_init_25 ?_
      refine lv_iload_n hx hb dX0_init_28 rfl (lv_at hl 0 rfl) ?_
      refine va_new (ci := 3) (fs := [.null, .null, .null, .null, .null, .null, .null, .int (nI 0), .int (nI 0), .int (nI 0), .int (nI 0), .int (nI 0), .int (nI 0), .int (nI 0)]) (C := RX3) (T := TX3) (N := 14) hx hb hts w_6 tyX3 tyX3_ok hown w_3 w_7 w_8 hE.1 hP hD hS hA rfl (fun j hj => by rcases (show j = 0 ∨ j = 1 ∨ j = 2 ∨ j = 3 ∨ j = 4 ∨ j = 5 ∨ j = 6 ∨ j = 7 ∨ j = 8 ∨ j = 9 ∨ j = 10 ∨ j = 11 ∨ j = 12 ∨ j = 13 by omega) with rfl | rfl | rfl | rfl | rfl | rfl | rfl | rfl | rfl | rfl | rfl | rfl | rfl | rfl <;> rfl) (Nat.le_of_ble_eq_true rfl) (Nat.le_of_ble_eq_true rfl) dX0_init_29 (fun q29_1 H hP hD hS => ?_)
      refine W.widen (k := 19) (n := 157) (Nat.le_of_ble_eq_true rfl) (Nat.le_of_ble_eq_true rfl) ?_
      refine lv_dup hx hb dX0_init_32 rfl ?_
      have hFc := frC hD hS hA
      refine mcall (st1 := [.ref q29_1, .int (nI 1), .ref q7]) (va_runI (As := []) (rest := [.ref q29_1, .int (nI 1), .ref q7]) ⟨hx, hb, hml, hown, hts⟩ (c_X3_init l G lo q29_1 H.size (hAl _ (D_last hD)) (Nat.le_trans hlz hS.1)) (cwI 0 hts gX0_init_X3_init rfl rfl rfl w_8 w_9 w_10 rfl (by decide +kernel) ⟨Nat.le_of_ble_eq_true rfl, Nat.le_of_ble_eq_true rfl⟩) (PF.preS hE (hF0.kept (fun a h1 h2 => hS.2.1 a h1 (fun h => h2 (hAl a h)))) ⟨rfl, P_last hP⟩) rfl rfl hl.1 rfl (lv_room (Nat.le_of_ble_eq_true rfl)) dX0_init_33 ⟨Nat.le_of_ble_eq_true rfl, Nat.le_of_ble_eq_true rfl⟩) hS (fun x _ h => hFc x h) hFc rfl (fun H1 locs1 hB hz1 hk1 hS => ?_)
      refine W.widen (k := 35) (n := 280) (Nat.le_of_ble_eq_true rfl) (Nat.le_of_ble_eq_true rfl) ?_
      obtain ⟨an33_1, ea33_1, hP1, hD1⟩ := hB
      obtain ⟨hP, hD⟩ := jnC hP hD hFc hk1 hP1 hD1
      clear hP1 hD1 hFc
      generalize H1 = H at hP hS ⊢
      replace hP : va_P G.1 vwCl ([(ha, .inr (0, [.ref q7, .int (nI 0), .int (nI 0)])), (q7, .inl (G.2.2, 6, .inr (.inr (.inr (.inr (va_up (fun _ => none) 0 (some (an33_0 0))))))))] ++ (cST G an33_0 fI (nI 0) (nI 0) (fun _ _ => nI 0) ++ (cST G an33_1 fI (nI 0) (nI 0) (fun _ _ => nI 0) ++ ([])))) H := by simpa only [List.append_assoc, List.nil_append, List.append_nil] using hP
      replace hD : va_D A ([(ha, .inr (0, [.ref q7, .int (nI 0), .int (nI 0)])), (q7, .inl (G.2.2, 6, .inr (.inr (.inr (.inr (va_up (fun _ => none) 0 (some (an33_0 0))))))))] ++ (cST G an33_0 fI (nI 0) (nI 0) (fun _ _ => nI 0) ++ (cST G an33_1 fI (nI 0) (nI 0) (fun _ _ => nI 0) ++ ([])))) := by simpa only [List.append_assoc, List.nil_append, List.append_nil] using hD
      refine tS (st' := [.ref (an33_1 0), .int (nI 1), .ref q7]) (by rw [ea33_1]) ?_
      refine va_astq (r := (RX3, TX3, 14)) hx hb hE.1 hP hD hS 1 1 19 3 rfl rfl rfl rfl (vp_in_nI (n := 1) (N := 6) (by decide) (by decide)) dX0_init_36 (fun H locs hP hD hS => ?_)
      rw [nI_clamp (by decide)] at hP hD
      have hP : va_P G.1 vwCl ([(ha, .inr (0, [.ref q7, .int (nI 0), .int (nI 0)])), (q7, .inl (G.2.2, 6, .inr (.inr (.inr (.inr (va_up (va_up (fun _ => none) 0 (some (an33_0 0))) 1 (some (an33_1 0))))))))] ++ (cST G an33_0 fI (nI 0) (nI 0) (fun _ _ => nI 0) ++ (cST G an33_1 fI (nI 0) (nI 0) (fun _ _ => nI 0) ++ ([])))) H := hP
      have hD : va_D A ([(ha, .inr (0, [.ref q7, .int (nI 0), .int (nI 0)])), (q7, .inl (G.2.2, 6, .inr (.inr (.inr (.inr (va_up (va_up (fun _ => none) 0 (some (an33_0 0))) 1 (some (an33_1 0))))))))] ++ (cST G an33_0 fI (nI 0) (nI 0) (fun _ _ => nI 0) ++ (cST G an33_1 fI (nI 0) (nI 0) (fun _ _ => nI 0) ++ ([])))) := hD
      refine lv_iinc (v := nI 2) (lv' := [(1, .int (nI 2)), (0, .ref ha)]) hx hb dX0_init_37 hl (k := 0) rfl (nI_inc1 _) (by decide) rfl (fun ls hl => ?_)
      refine lv_goto (tgt := 15) hx hb dX0_init_40 (by decide) ?_
      refine lv_iload_n hx hb dX0_init_15 rfl (lv_at hl 0 rfl) ?_
      refine lv_aload_n hx hb dX0_init_16 rfl (lv_at hl 1 rfl) ?_
      refine va_get (D := G.1) (ci := 0) (v := .ref q7) (C := RX0) (T := TX0) (N := 3) hx hb hts w_4 hown hE.1 hP 0 rfl rfl 0 (by decide) w_5 (fun _ h9 => h9) rfl dX0_init_17 ?_
      refine va_alen (v := nI 6) hx hb hE.1 hP 1 1 rfl rfl rfl dX0_init_20 ?_
      refine icmp_geN (tgt := 43) hx hb (by omega) (by omega) dX0_init_21 (by decide) (fun c21 => ?_) (fun c21 => ?_)
      · skip
        omega
      · skip
        refine lv_aload_n hx hb dX0_init_24 rfl (lv_at hl 1 rfl) ?_
        refine va_get (D := G.1) (ci := 0) (v := .ref q7) (C := RX0) (T := TX0) (N := 3) hx hb hts w_4 hown hE.1 hP 0 rfl rfl 0 (by decide) w_5 (fun _ h9 => h9) rfl dX0_init_25 ?_
        refine lv_iload_n hx hb dX0_init_28 rfl (lv_at hl 0 rfl) ?_
        refine va_new (ci := 3) (fs := [.null, .null, .null, .null, .null, .null, .null, .int (nI 0), .int (nI 0), .int (nI 0), .int (nI 0), .int (nI 0), .int (nI 0), .int (nI 0)]) (C := RX3) (T := TX3) (N := 14) hx hb hts w_6 tyX3 tyX3_ok hown w_3 w_7 w_8 hE.1 hP hD hS hA rfl (fun j hj => by rcases (show j = 0 ∨ j = 1 ∨ j = 2 ∨ j = 3 ∨ j = 4 ∨ j = 5 ∨ j = 6 ∨ j = 7 ∨ j = 8 ∨ j = 9 ∨ j = 10 ∨ j = 11 ∨ j = 12 ∨ j = 13 by omega) with rfl | rfl | rfl | rfl | rfl | rfl | rfl | rfl | rfl | rfl | rfl | rfl | rfl | rfl <;> rfl) (Nat.le_of_ble_eq_true rfl) (Nat.le_of_ble_eq_true rfl) dX0_init_29 (fun q29_2 H hP hD hS => ?_)
        refine W.widen (k := 36) (n := 294) (Nat.le_of_ble_eq_true rfl) (Nat.le_of_ble_eq_true rfl) ?_
        refine lv_dup hx hb dX0_init_32 rfl ?_
        have hFc := frC hD hS hA
        refine mcall (st1 := [.ref q29_2, .int (nI 2), .ref q7]) (va_runI (As := []) (rest := [.ref q29_2, .int (nI 2), .ref q7]) ⟨hx, hb, hml, hown, hts⟩ (c_X3_init l G lo q29_2 H.size (hAl _ (D_last hD)) (Nat.le_trans hlz hS.1)) (cwI 0 hts gX0_init_X3_init rfl rfl rfl w_8 w_9 w_10 rfl (by decide +kernel) ⟨Nat.le_of_ble_eq_true rfl, Nat.le_of_ble_eq_true rfl⟩) (PF.preS hE (hF0.kept (fun a h1 h2 => hS.2.1 a h1 (fun h => h2 (hAl a h)))) ⟨rfl, P_last hP⟩) rfl rfl hl.1 rfl (lv_room (Nat.le_of_ble_eq_true rfl)) dX0_init_33 ⟨Nat.le_of_ble_eq_true rfl, Nat.le_of_ble_eq_true rfl⟩) hS (fun x _ h => hFc x h) hFc rfl (fun H1 locs1 hB hz1 hk1 hS => ?_)
        refine W.widen (k := 52) (n := 417) (Nat.le_of_ble_eq_true rfl) (Nat.le_of_ble_eq_true rfl) ?_
        obtain ⟨an33_2, ea33_2, hP1, hD1⟩ := hB
        obtain ⟨hP, hD⟩ := jnC hP hD hFc hk1 hP1 hD1
        clear hP1 hD1 hFc
        generalize H1 = H at hP hS ⊢
        replace hP : va_P G.1 vwCl ([(ha, .inr (0, [.ref q7, .int (nI 0), .int (nI 0)])), (q7, .inl (G.2.2, 6, .inr (.inr (.inr (.inr (va_up (va_up (fun _ => none) 0 (some (an33_0 0))) 1 (some (an33_1 0))))))))] ++ (cST G an33_0 fI (nI 0) (nI 0) (fun _ _ => nI 0) ++ (cST G an33_1 fI (nI 0) (nI 0) (fun _ _ => nI 0) ++ (cST G an33_2 fI (nI 0) (nI 0) (fun _ _ => nI 0) ++ ([]))))) H := by simpa only [List.append_assoc, List.nil_append, List.append_nil] using hP
        replace hD : va_D A ([(ha, .inr (0, [.ref q7, .int (nI 0), .int (nI 0)])), (q7, .inl (G.2.2, 6, .inr (.inr (.inr (.inr (va_up (va_up (fun _ => none) 0 (some (an33_0 0))) 1 (some (an33_1 0))))))))] ++ (cST G an33_0 fI (nI 0) (nI 0) (fun _ _ => nI 0) ++ (cST G an33_1 fI (nI 0) (nI 0) (fun _ _ => nI 0) ++ (cST G an33_2 fI (nI 0) (nI 0) (fun _ _ => nI 0) ++ ([]))))) := by simpa only [List.append_assoc, List.nil_append, List.append_nil] using hD
        refine tS (st' := [.ref (an33_2 0), .int (nI 2), .ref q7]) (by rw [ea33_2]) ?_
        refine va_astq (r := (RX3, TX3, 14)) hx hb hE.1 hP hD hS 1 1 36 3 rfl rfl rfl rfl (vp_in_nI (n := 2) (N := 6) (by decide) (by decide)) dX0_init_36 (fun H locs hP hD hS => ?_)
        rw [nI_clamp (by decide)] at hP hD
        have hP : va_P G.1 vwCl ([(ha, .inr (0, [.ref q7, .int (nI 0), .int (nI 0)])), (q7, .inl (G.2.2, 6, .inr (.inr (.inr (.inr (va_up (va_up (va_up (fun _ => none) 0 (some (an33_0 0))) 1 (some (an33_1 0))) 2 (some (an33_2 0))))))))] ++ (cST G an33_0 fI (nI 0) (nI 0) (fun _ _ => nI 0) ++ (cST G an33_1 fI (nI 0) (nI 0) (fun _ _ => nI 0) ++ (cST G an33_2 fI (nI 0) (nI 0) (fun _ _ => nI 0) ++ ([]))))) H := hP
        have hD : va_D A ([(ha, .inr (0, [.ref q7, .int (nI 0), .int (nI 0)])), (q7, .inl (G.2.2, 6, .inr (.inr (.inr (.inr (va_up (va_up (va_up (fun _ => none) 0 (some (an33_0 0))) 1 (some (an33_1 0))) 2 (some (an33_2 0))))))))] ++ (cST G an33_0 fI (nI 0) (nI 0) (fun _ _ => nI 0) ++ (cST G an33_1 fI (nI 0) (nI 0) (fun _ _ => nI 0) ++ (cST G an33_2 fI (nI 0) (nI 0) (fun _ _ => nI 0) ++ ([]))))) := hD
        refine lv_iinc (v := nI 3) (lv' := [(1, .int (nI 3)), (0, .ref ha)]) hx hb dX0_init_37 hl (k := 0) rfl (nI_inc1 _) (by decide) rfl (fun ls hl => ?_)
        refine lv_goto (tgt := 15) hx hb dX0_init_40 (by decide) ?_
        refine lv_iload_n hx hb dX0_init_15 rfl (lv_at hl 0 rfl) ?_
        refine lv_aload_n hx hb dX0_init_16 rfl (lv_at hl 1 rfl) ?_
        refine va_get (D := G.1) (ci := 0) (v := .ref q7) (C := RX0) (T := TX0) (N := 3) hx hb hts w_4 hown hE.1 hP 0 rfl rfl 0 (by decide) w_5 (fun _ h9 => h9) rfl dX0_init_17 ?_
        refine va_alen (v := nI 6) hx hb hE.1 hP 1 1 rfl rfl rfl dX0_init_20 ?_
        refine icmp_geN (tgt := 43) hx hb (by omega) (by omega) dX0_init_21 (by decide) (fun c21 => ?_) (fun c21 => ?_)
        · skip
          omega
        · skip
          refine lv_aload_n hx hb dX0_init_24 rfl (lv_at hl 1 rfl) ?_
          refine va_get (D := G.1) (ci := 0) (v := .ref q7) (C := RX0) (T := TX0) (N := 3) hx hb hts w_4 hown hE.1 hP 0 rfl rfl 0 (by decide) w_5 (fun _ h9 => h9) rfl dX0_init_25 ?_
          refine lv_iload_n hx hb dX0_init_28 rfl (lv_at hl 0 rfl) ?_
          refine va_new (ci := 3) (fs := [.null, .null, .null, .null, .null, .null, .null, .int (nI 0), .int (nI 0), .int (nI 0), .int (nI 0), .int (nI 0), .int (nI 0), .int (nI 0)]) (C := RX3) (T := TX3) (N := 14) hx hb hts w_6 tyX3 tyX3_ok hown w_3 w_7 w_8 hE.1 hP hD hS hA rfl (fun j hj => by rcases (show j = 0 ∨ j = 1 ∨ j = 2 ∨ j = 3 ∨ j = 4 ∨ j = 5 ∨ j = 6 ∨ j = 7 ∨ j = 8 ∨ j = 9 ∨ j = 10 ∨ j = 11 ∨ j = 12 ∨ j = 13 by omega) with rfl | rfl | rfl | rfl | rfl | rfl | rfl | rfl | rfl | rfl | rfl | rfl | rfl | rfl <;> rfl) (Nat.le_of_ble_eq_true rfl) (Nat.le_of_ble_eq_true rfl) dX0_init_29 (fun q29_3 H hP hD hS => ?_)
          refine W.widen (k := 53) (n := 431) (Nat.le_of_ble_eq_true rfl) (Nat.le_of_ble_eq_true rfl) ?_
          refine lv_dup hx hb dX0_init_32 rfl ?_
          have hFc := frC hD hS hA
          refine mcall (st1 := [.ref q29_3, .int (nI 3), .ref q7]) (va_runI (As := []) (rest := [.ref q29_3, .int (nI 3), .ref q7]) ⟨hx, hb, hml, hown, hts⟩ (c_X3_init l G lo q29_3 H.size (hAl _ (D_last hD)) (Nat.le_trans hlz hS.1)) (cwI 0 hts gX0_init_X3_init rfl rfl rfl w_8 w_9 w_10 rfl (by decide +kernel) ⟨Nat.le_of_ble_eq_true rfl, Nat.le_of_ble_eq_true rfl⟩) (PF.preS hE (hF0.kept (fun a h1 h2 => hS.2.1 a h1 (fun h => h2 (hAl a h)))) ⟨rfl, P_last hP⟩) rfl rfl hl.1 rfl (lv_room (Nat.le_of_ble_eq_true rfl)) dX0_init_33 ⟨Nat.le_of_ble_eq_true rfl, Nat.le_of_ble_eq_true rfl⟩) hS (fun x _ h => hFc x h) hFc rfl (fun H1 locs1 hB hz1 hk1 hS => ?_)
          refine W.widen (k := 69) (n := 554) (Nat.le_of_ble_eq_true rfl) (Nat.le_of_ble_eq_true rfl) ?_
          obtain ⟨an33_3, ea33_3, hP1, hD1⟩ := hB
          obtain ⟨hP, hD⟩ := jnC hP hD hFc hk1 hP1 hD1
          clear hP1 hD1 hFc
          generalize H1 = H at hP hS ⊢
          replace hP : va_P G.1 vwCl ([(ha, .inr (0, [.ref q7, .int (nI 0), .int (nI 0)])), (q7, .inl (G.2.2, 6, .inr (.inr (.inr (.inr (va_up (va_up (va_up (fun _ => none) 0 (some (an33_0 0))) 1 (some (an33_1 0))) 2 (some (an33_2 0))))))))] ++ (cST G an33_0 fI (nI 0) (nI 0) (fun _ _ => nI 0) ++ (cST G an33_1 fI (nI 0) (nI 0) (fun _ _ => nI 0) ++ (cST G an33_2 fI (nI 0) (nI 0) (fun _ _ => nI 0) ++ (cST G an33_3 fI (nI 0) (nI 0) (fun _ _ => nI 0) ++ ([])))))) H := by simpa only [List.append_assoc, List.nil_append, List.append_nil] using hP
          replace hD : va_D A ([(ha, .inr (0, [.ref q7, .int (nI 0), .int (nI 0)])), (q7, .inl (G.2.2, 6, .inr (.inr (.inr (.inr (va_up (va_up (va_up (fun _ => none) 0 (some (an33_0 0))) 1 (some (an33_1 0))) 2 (some (an33_2 0))))))))] ++ (cST G an33_0 fI (nI 0) (nI 0) (fun _ _ => nI 0) ++ (cST G an33_1 fI (nI 0) (nI 0) (fun _ _ => nI 0) ++ (cST G an33_2 fI (nI 0) (nI 0) (fun _ _ => nI 0) ++ (cST G an33_3 fI (nI 0) (nI 0) (fun _ _ => nI 0) ++ ([])))))) := by simpa only [List.append_assoc, List.nil_append, List.append_nil] using hD
          refine tS (st' := [.ref (an33_3 0), .int (nI 3), .ref q7]) (by rw [ea33_3]) ?_
          refine va_astq (r := (RX3, TX3, 14)) hx hb hE.1 hP hD hS 1 1 53 3 rfl rfl rfl rfl (vp_in_nI (n := 3) (N := 6) (by decide) (by decide)) dX0_init_36 (fun H locs hP hD hS => ?_)
          rw [nI_clamp (by decide)] at hP hD
          have hP : va_P G.1 vwCl ([(ha, .inr (0, [.ref q7, .int (nI 0), .int (nI 0)])), (q7, .inl (G.2.2, 6, .inr (.inr (.inr (.inr (va_up (va_up (va_up (va_up (fun _ => none) 0 (some (an33_0 0))) 1 (some (an33_1 0))) 2 (some (an33_2 0))) 3 (some (an33_3 0))))))))] ++ (cST G an33_0 fI (nI 0) (nI 0) (fun _ _ => nI 0) ++ (cST G an33_1 fI (nI 0) (nI 0) (fun _ _ => nI 0) ++ (cST G an33_2 fI (nI 0) (nI 0) (fun _ _ => nI 0) ++ (cST G an33_3 fI (nI 0) (nI 0) (fun _ _ => nI 0) ++ ([])))))) H := hP
          have hD : va_D A ([(ha, .inr (0, [.ref q7, .int (nI 0), .int (nI 0)])), (q7, .inl (G.2.2, 6, .inr (.inr (.inr (.inr (va_up (va_up (va_up (va_up (fun _ => none) 0 (some (an33_0 0))) 1 (some (an33_1 0))) 2 (some (an33_2 0))) 3 (some (an33_3 0))))))))] ++ (cST G an33_0 fI (nI 0) (nI 0) (fun _ _ => nI 0) ++ (cST G an33_1 fI (nI 0) (nI 0) (fun _ _ => nI 0) ++ (cST G an33_2 fI (nI 0) (nI 0) (fun _ _ => nI 0) ++ (cST G an33_3 fI (nI 0) (nI 0) (fun _ _ => nI 0) ++ ([])))))) := hD
          refine lv_iinc (v := nI 4) (lv' := [(1, .int (nI 4)), (0, .ref ha)]) hx hb dX0_init_37 hl (k := 0) rfl (nI_inc1 _) (by decide) rfl (fun ls hl => ?_)
          refine lv_goto (tgt := 15) hx hb dX0_init_40 (by decide) ?_
          refine lv_iload_n hx hb dX0_init_15 rfl (lv_at hl 0 rfl) ?_
          refine lv_aload_n hx hb dX0_init_16 rfl (lv_at hl 1 rfl) ?_
          refine va_get (D := G.1) (ci := 0) (v := .ref q7) (C := RX0) (T := TX0) (N := 3) hx hb hts w_4 hown hE.1 hP 0 rfl rfl 0 (by decide) w_5 (fun _ h9 => h9) rfl dX0_init_17 ?_
          refine va_alen (v := nI 6) hx hb hE.1 hP 1 1 rfl rfl rfl dX0_init_20 ?_
          refine icmp_geN (tgt := 43) hx hb (by omega) (by omega) dX0_init_21 (by decide) (fun c21 => ?_) (fun c21 => ?_)
          · skip
            omega
          · skip
            refine lv_aload_n hx hb dX0_init_24 rfl (lv_at hl 1 rfl) ?_
            refine va_get (D := G.1) (ci := 0) (v := .ref q7) (C := RX0) (T := TX0) (N := 3) hx hb hts w_4 hown hE.1 hP 0 rfl rfl 0 (by decide) w_5 (fun _ h9 => h9) rfl dX0_init_25 ?_
            refine lv_iload_n hx hb dX0_init_28 rfl (lv_at hl 0 rfl) ?_
            refine va_new (ci := 3) (fs := [.null, .null, .null, .null, .null, .null, .null, .int (nI 0), .int (nI 0), .int (nI 0), .int (nI 0), .int (nI 0), .int (nI 0), .int (nI 0)]) (C := RX3) (T := TX3) (N := 14) hx hb hts w_6 tyX3 tyX3_ok hown w_3 w_7 w_8 hE.1 hP hD hS hA rfl (fun j hj => by rcases (show j = 0 ∨ j = 1 ∨ j = 2 ∨ j = 3 ∨ j = 4 ∨ j = 5 ∨ j = 6 ∨ j = 7 ∨ j = 8 ∨ j = 9 ∨ j = 10 ∨ j = 11 ∨ j = 12 ∨ j = 13 by omega) with rfl | rfl | rfl | rfl | rfl | rfl | rfl | rfl | rfl | rfl | rfl | rfl | rfl | rfl <;> rfl) (Nat.le_of_ble_eq_true rfl) (Nat.le_of_ble_eq_true rfl) dX0_init_29 (fun q29_4 H hP hD hS => ?_)
            refine W.widen (k := 70) (n := 568) (Nat.le_of_ble_eq_true rfl) (Nat.le_of_ble_eq_true rfl) ?_
            refine lv_dup hx hb dX0_init_32 rfl ?_
            have hFc := frC hD hS hA
            refine mcall (st1 := [.ref q29_4, .int (nI 4), .ref q7]) (va_runI (As := []) (rest := [.ref q29_4, .int (nI 4), .ref q7]) ⟨hx, hb, hml, hown, hts⟩ (c_X3_init l G lo q29_4 H.size (hAl _ (D_last hD)) (Nat.le_trans hlz hS.1)) (cwI 0 hts gX0_init_X3_init rfl rfl rfl w_8 w_9 w_10 rfl (by decide +kernel) ⟨Nat.le_of_ble_eq_true rfl, Nat.le_of_ble_eq_true rfl⟩) (PF.preS hE (hF0.kept (fun a h1 h2 => hS.2.1 a h1 (fun h => h2 (hAl a h)))) ⟨rfl, P_last hP⟩) rfl rfl hl.1 rfl (lv_room (Nat.le_of_ble_eq_true rfl)) dX0_init_33 ⟨Nat.le_of_ble_eq_true rfl, Nat.le_of_ble_eq_true rfl⟩) hS (fun x _ h => hFc x h) hFc rfl (fun H1 locs1 hB hz1 hk1 hS => ?_)
            refine W.widen (k := 86) (n := 691) (Nat.le_of_ble_eq_true rfl) (Nat.le_of_ble_eq_true rfl) ?_
            obtain ⟨an33_4, ea33_4, hP1, hD1⟩ := hB
            obtain ⟨hP, hD⟩ := jnC hP hD hFc hk1 hP1 hD1
            clear hP1 hD1 hFc
            generalize H1 = H at hP hS ⊢
            replace hP : va_P G.1 vwCl ([(ha, .inr (0, [.ref q7, .int (nI 0), .int (nI 0)])), (q7, .inl (G.2.2, 6, .inr (.inr (.inr (.inr (va_up (va_up (va_up (va_up (fun _ => none) 0 (some (an33_0 0))) 1 (some (an33_1 0))) 2 (some (an33_2 0))) 3 (some (an33_3 0))))))))] ++ (cST G an33_0 fI (nI 0) (nI 0) (fun _ _ => nI 0) ++ (cST G an33_1 fI (nI 0) (nI 0) (fun _ _ => nI 0) ++ (cST G an33_2 fI (nI 0) (nI 0) (fun _ _ => nI 0) ++ (cST G an33_3 fI (nI 0) (nI 0) (fun _ _ => nI 0) ++ (cST G an33_4 fI (nI 0) (nI 0) (fun _ _ => nI 0) ++ ([]))))))) H := by simpa only [List.append_assoc, List.nil_append, List.append_nil] using hP
            replace hD : va_D A ([(ha, .inr (0, [.ref q7, .int (nI 0), .int (nI 0)])), (q7, .inl (G.2.2, 6, .inr (.inr (.inr (.inr (va_up (va_up (va_up (va_up (fun _ => none) 0 (some (an33_0 0))) 1 (some (an33_1 0))) 2 (some (an33_2 0))) 3 (some (an33_3 0))))))))] ++ (cST G an33_0 fI (nI 0) (nI 0) (fun _ _ => nI 0) ++ (cST G an33_1 fI (nI 0) (nI 0) (fun _ _ => nI 0) ++ (cST G an33_2 fI (nI 0) (nI 0) (fun _ _ => nI 0) ++ (cST G an33_3 fI (nI 0) (nI 0) (fun _ _ => nI 0) ++ (cST G an33_4 fI (nI 0) (nI 0) (fun _ _ => nI 0) ++ ([]))))))) := by simpa only [List.append_assoc, List.nil_append, List.append_nil] using hD
            refine tS (st' := [.ref (an33_4 0), .int (nI 4), .ref q7]) (by rw [ea33_4]) ?_
            refine va_astq (r := (RX3, TX3, 14)) hx hb hE.1 hP hD hS 1 1 70 3 rfl rfl rfl rfl (vp_in_nI (n := 4) (N := 6) (by decide) (by decide)) dX0_init_36 (fun H locs hP hD hS => ?_)
            rw [nI_clamp (by decide)] at hP hD
            have hP : va_P G.1 vwCl ([(ha, .inr (0, [.ref q7, .int (nI 0), .int (nI 0)])), (q7, .inl (G.2.2, 6, .inr (.inr (.inr (.inr (va_up (va_up (va_up (va_up (va_up (fun _ => none) 0 (some (an33_0 0))) 1 (some (an33_1 0))) 2 (some (an33_2 0))) 3 (some (an33_3 0))) 4 (some (an33_4 0))))))))] ++ (cST G an33_0 fI (nI 0) (nI 0) (fun _ _ => nI 0) ++ (cST G an33_1 fI (nI 0) (nI 0) (fun _ _ => nI 0) ++ (cST G an33_2 fI (nI 0) (nI 0) (fun _ _ => nI 0) ++ (cST G an33_3 fI (nI 0) (nI 0) (fun _ _ => nI 0) ++ (cST G an33_4 fI (nI 0) (nI 0) (fun _ _ => nI 0) ++ ([]))))))) H := hP
            have hD : va_D A ([(ha, .inr (0, [.ref q7, .int (nI 0), .int (nI 0)])), (q7, .inl (G.2.2, 6, .inr (.inr (.inr (.inr (va_up (va_up (va_up (va_up (va_up (fun _ => none) 0 (some (an33_0 0))) 1 (some (an33_1 0))) 2 (some (an33_2 0))) 3 (some (an33_3 0))) 4 (some (an33_4 0))))))))] ++ (cST G an33_0 fI (nI 0) (nI 0) (fun _ _ => nI 0) ++ (cST G an33_1 fI (nI 0) (nI 0) (fun _ _ => nI 0) ++ (cST G an33_2 fI (nI 0) (nI 0) (fun _ _ => nI 0) ++ (cST G an33_3 fI (nI 0) (nI 0) (fun _ _ => nI 0) ++ (cST G an33_4 fI (nI 0) (nI 0) (fun _ _ => nI 0) ++ ([]))))))) := hD
            refine lv_iinc (v := nI 5) (lv' := [(1, .int (nI 5)), (0, .ref ha)]) hx hb dX0_init_37 hl (k := 0) rfl (nI_inc1 _) (by decide) rfl (fun ls hl => ?_)
            refine lv_goto (tgt := 15) hx hb dX0_init_40 (by decide) ?_
            refine lv_iload_n hx hb dX0_init_15 rfl (lv_at hl 0 rfl) ?_
            refine lv_aload_n hx hb dX0_init_16 rfl (lv_at hl 1 rfl) ?_
            refine va_get (D := G.1) (ci := 0) (v := .ref q7) (C := RX0) (T := TX0) (N := 3) hx hb hts w_4 hown hE.1 hP 0 rfl rfl 0 (by decide) w_5 (fun _ h9 => h9) rfl dX0_init_17 ?_
            refine va_alen (v := nI 6) hx hb hE.1 hP 1 1 rfl rfl rfl dX0_init_20 ?_
            refine icmp_geN (tgt := 43) hx hb (by omega) (by omega) dX0_init_21 (by decide) (fun c21 => ?_) (fun c21 => ?_)
            · skip
              omega
            · skip
              refine lv_aload_n hx hb dX0_init_24 rfl (lv_at hl 1 rfl) ?_
              refine va_get (D := G.1) (ci := 0) (v := .ref q7) (C := RX0) (T := TX0) (N := 3) hx hb hts w_4 hown hE.1 hP 0 rfl rfl 0 (by decide) w_5 (fun _ h9 => h9) rfl dX0_init_25 ?_
              refine lv_iload_n hx hb dX0_init_28 rfl (lv_at hl 0 rfl) ?_
              refine va_new (ci := 3) (fs := [.null, .null, .null, .null, .null, .null, .null, .int (nI 0), .int (nI 0), .int (nI 0), .int (nI 0), .int (nI 0), .int (nI 0), .int (nI 0)]) (C := RX3) (T := TX3) (N := 14) hx hb hts w_6 tyX3 tyX3_ok hown w_3 w_7 w_8 hE.1 hP hD hS hA rfl (fun j hj => by rcases (show j = 0 ∨ j = 1 ∨ j = 2 ∨ j = 3 ∨ j = 4 ∨ j = 5 ∨ j = 6 ∨ j = 7 ∨ j = 8 ∨ j = 9 ∨ j = 10 ∨ j = 11 ∨ j = 12 ∨ j = 13 by omega) with rfl | rfl | rfl | rfl | rfl | rfl | rfl | rfl | rfl | rfl | rfl | rfl | rfl | rfl <;> rfl) (Nat.le_of_ble_eq_true rfl) (Nat.le_of_ble_eq_true rfl) dX0_init_29 (fun q29_5 H hP hD hS => ?_)
              refine W.widen (k := 87) (n := 705) (Nat.le_of_ble_eq_true rfl) (Nat.le_of_ble_eq_true rfl) ?_
              refine lv_dup hx hb dX0_init_32 rfl ?_
              have hFc := frC hD hS hA
              refine mcall (st1 := [.ref q29_5, .int (nI 5), .ref q7]) (va_runI (As := []) (rest := [.ref q29_5, .int (nI 5), .ref q7]) ⟨hx, hb, hml, hown, hts⟩ (c_X3_init l G lo q29_5 H.size (hAl _ (D_last hD)) (Nat.le_trans hlz hS.1)) (cwI 0 hts gX0_init_X3_init rfl rfl rfl w_8 w_9 w_10 rfl (by decide +kernel) ⟨Nat.le_of_ble_eq_true rfl, Nat.le_of_ble_eq_true rfl⟩) (PF.preS hE (hF0.kept (fun a h1 h2 => hS.2.1 a h1 (fun h => h2 (hAl a h)))) ⟨rfl, P_last hP⟩) rfl rfl hl.1 rfl (lv_room (Nat.le_of_ble_eq_true rfl)) dX0_init_33 ⟨Nat.le_of_ble_eq_true rfl, Nat.le_of_ble_eq_true rfl⟩) hS (fun x _ h => hFc x h) hFc rfl (fun H1 locs1 hB hz1 hk1 hS => ?_)
              refine W.widen (k := 103) (n := 828) (Nat.le_of_ble_eq_true rfl) (Nat.le_of_ble_eq_true rfl) ?_
              obtain ⟨an33_5, ea33_5, hP1, hD1⟩ := hB
              obtain ⟨hP, hD⟩ := jnC hP hD hFc hk1 hP1 hD1
              clear hP1 hD1 hFc
              generalize H1 = H at hP hS ⊢
              replace hP : va_P G.1 vwCl ([(ha, .inr (0, [.ref q7, .int (nI 0), .int (nI 0)])), (q7, .inl (G.2.2, 6, .inr (.inr (.inr (.inr (va_up (va_up (va_up (va_up (va_up (fun _ => none) 0 (some (an33_0 0))) 1 (some (an33_1 0))) 2 (some (an33_2 0))) 3 (some (an33_3 0))) 4 (some (an33_4 0))))))))] ++ (cST G an33_0 fI (nI 0) (nI 0) (fun _ _ => nI 0) ++ (cST G an33_1 fI (nI 0) (nI 0) (fun _ _ => nI 0) ++ (cST G an33_2 fI (nI 0) (nI 0) (fun _ _ => nI 0) ++ (cST G an33_3 fI (nI 0) (nI 0) (fun _ _ => nI 0) ++ (cST G an33_4 fI (nI 0) (nI 0) (fun _ _ => nI 0) ++ (cST G an33_5 fI (nI 0) (nI 0) (fun _ _ => nI 0) ++ ([])))))))) H := by simpa only [List.append_assoc, List.nil_append, List.append_nil] using hP
              replace hD : va_D A ([(ha, .inr (0, [.ref q7, .int (nI 0), .int (nI 0)])), (q7, .inl (G.2.2, 6, .inr (.inr (.inr (.inr (va_up (va_up (va_up (va_up (va_up (fun _ => none) 0 (some (an33_0 0))) 1 (some (an33_1 0))) 2 (some (an33_2 0))) 3 (some (an33_3 0))) 4 (some (an33_4 0))))))))] ++ (cST G an33_0 fI (nI 0) (nI 0) (fun _ _ => nI 0) ++ (cST G an33_1 fI (nI 0) (nI 0) (fun _ _ => nI 0) ++ (cST G an33_2 fI (nI 0) (nI 0) (fun _ _ => nI 0) ++ (cST G an33_3 fI (nI 0) (nI 0) (fun _ _ => nI 0) ++ (cST G an33_4 fI (nI 0) (nI 0) (fun _ _ => nI 0) ++ (cST G an33_5 fI (nI 0) (nI 0) (fun _ _ => nI 0) ++ ([])))))))) := by simpa only [List.append_assoc, List.nil_append, List.append_nil] using hD
              refine tS (st' := [.ref (an33_5 0), .int (nI 5), .ref q7]) (by rw [ea33_5]) ?_
              refine va_astq (r := (RX3, TX3, 14)) hx hb hE.1 hP hD hS 1 1 87 3 rfl rfl rfl rfl (vp_in_nI (n := 5) (N := 6) (by decide) (by decide)) dX0_init_36 (fun H locs hP hD hS => ?_)
              rw [nI_clamp (by decide)] at hP hD
              have hP : va_P G.1 vwCl ([(ha, .inr (0, [.ref q7, .int (nI 0), .int (nI 0)])), (q7, .inl (G.2.2, 6, .inr (.inr (.inr (.inr (va_up (va_up (va_up (va_up (va_up (va_up (fun _ => none) 0 (some (an33_0 0))) 1 (some (an33_1 0))) 2 (some (an33_2 0))) 3 (some (an33_3 0))) 4 (some (an33_4 0))) 5 (some (an33_5 0))))))))] ++ (cST G an33_0 fI (nI 0) (nI 0) (fun _ _ => nI 0) ++ (cST G an33_1 fI (nI 0) (nI 0) (fun _ _ => nI 0) ++ (cST G an33_2 fI (nI 0) (nI 0) (fun _ _ => nI 0) ++ (cST G an33_3 fI (nI 0) (nI 0) (fun _ _ => nI 0) ++ (cST G an33_4 fI (nI 0) (nI 0) (fun _ _ => nI 0) ++ (cST G an33_5 fI (nI 0) (nI 0) (fun _ _ => nI 0) ++ ([])))))))) H := hP
              have hD : va_D A ([(ha, .inr (0, [.ref q7, .int (nI 0), .int (nI 0)])), (q7, .inl (G.2.2, 6, .inr (.inr (.inr (.inr (va_up (va_up (va_up (va_up (va_up (va_up (fun _ => none) 0 (some (an33_0 0))) 1 (some (an33_1 0))) 2 (some (an33_2 0))) 3 (some (an33_3 0))) 4 (some (an33_4 0))) 5 (some (an33_5 0))))))))] ++ (cST G an33_0 fI (nI 0) (nI 0) (fun _ _ => nI 0) ++ (cST G an33_1 fI (nI 0) (nI 0) (fun _ _ => nI 0) ++ (cST G an33_2 fI (nI 0) (nI 0) (fun _ _ => nI 0) ++ (cST G an33_3 fI (nI 0) (nI 0) (fun _ _ => nI 0) ++ (cST G an33_4 fI (nI 0) (nI 0) (fun _ _ => nI 0) ++ (cST G an33_5 fI (nI 0) (nI 0) (fun _ _ => nI 0) ++ ([])))))))) := hD
              refine lv_iinc (v := nI 6) (lv' := [(1, .int (nI 6)), (0, .ref ha)]) hx hb dX0_init_37 hl (k := 0) rfl (nI_inc1 _) (by decide) rfl (fun ls hl => ?_)
              refine lv_goto (tgt := 15) hx hb dX0_init_40 (by decide) ?_
              refine lv_iload_n hx hb dX0_init_15 rfl (lv_at hl 0 rfl) ?_
              refine lv_aload_n hx hb dX0_init_16 rfl (lv_at hl 1 rfl) ?_
              refine va_get (D := G.1) (ci := 0) (v := .ref q7) (C := RX0) (T := TX0) (N := 3) hx hb hts w_4 hown hE.1 hP 0 rfl rfl 0 (by decide) w_5 (fun _ h9 => h9) rfl dX0_init_17 ?_
              refine va_alen (v := nI 6) hx hb hE.1 hP 1 1 rfl rfl rfl dX0_init_20 ?_
              refine icmp_geN (tgt := 43) hx hb (by omega) (by omega) dX0_init_21 (by decide) (fun c21 => ?_) (fun c21 => ?_)
              · skip
                refine lv_aload_n hx hb dX0_init_43 rfl (lv_at hl 1 rfl) ?_
                refine lv_iconst (v := nI 0) hx hb dX0_init_44 (by decide +kernel) ?_
                refine va_put (D := G.1) (ci := 0) (v := .int (nI 0)) (ty := .int) (C := RX0) (T := TX0) (N := 3) hx hb hts w_4 tyX0 tyX0_ok nmX0 hown hE.1 hP hD hS 0 rfl rfl 1 (by decide) w_11 (fun _ h9 => h9) rfl (by decide +kernel) rfl rfl (Nat.le_of_ble_eq_true rfl) dX0_init_45 (fun H locs hP hD hS => ?_)
                have hP : va_P G.1 vwCl ([(ha, .inr (0, [.ref q7, .int (nI 0), .int (nI 0)])), (q7, .inl (G.2.2, 6, .inr (.inr (.inr (.inr (va_up (va_up (va_up (va_up (va_up (va_up (fun _ => none) 0 (some (an33_0 0))) 1 (some (an33_1 0))) 2 (some (an33_2 0))) 3 (some (an33_3 0))) 4 (some (an33_4 0))) 5 (some (an33_5 0))))))))] ++ (cST G an33_0 fI (nI 0) (nI 0) (fun _ _ => nI 0) ++ (cST G an33_1 fI (nI 0) (nI 0) (fun _ _ => nI 0) ++ (cST G an33_2 fI (nI 0) (nI 0) (fun _ _ => nI 0) ++ (cST G an33_3 fI (nI 0) (nI 0) (fun _ _ => nI 0) ++ (cST G an33_4 fI (nI 0) (nI 0) (fun _ _ => nI 0) ++ (cST G an33_5 fI (nI 0) (nI 0) (fun _ _ => nI 0) ++ ([])))))))) H := hP
                have hD : va_D A ([(ha, .inr (0, [.ref q7, .int (nI 0), .int (nI 0)])), (q7, .inl (G.2.2, 6, .inr (.inr (.inr (.inr (va_up (va_up (va_up (va_up (va_up (va_up (fun _ => none) 0 (some (an33_0 0))) 1 (some (an33_1 0))) 2 (some (an33_2 0))) 3 (some (an33_3 0))) 4 (some (an33_4 0))) 5 (some (an33_5 0))))))))] ++ (cST G an33_0 fI (nI 0) (nI 0) (fun _ _ => nI 0) ++ (cST G an33_1 fI (nI 0) (nI 0) (fun _ _ => nI 0) ++ (cST G an33_2 fI (nI 0) (nI 0) (fun _ _ => nI 0) ++ (cST G an33_3 fI (nI 0) (nI 0) (fun _ _ => nI 0) ++ (cST G an33_4 fI (nI 0) (nI 0) (fun _ _ => nI 0) ++ (cST G an33_5 fI (nI 0) (nI 0) (fun _ _ => nI 0) ++ ([])))))))) := hD
                refine lv_aload_n hx hb dX0_init_48 rfl (lv_at hl 1 rfl) ?_
                refine lv_iconst (v := nI 0) hx hb dX0_init_49 (by decide +kernel) ?_
                refine va_put (D := G.1) (ci := 0) (v := .int (nI 0)) (ty := .int) (C := RX0) (T := TX0) (N := 3) hx hb hts w_4 tyX0 tyX0_ok nmX0 hown hE.1 hP hD hS 0 rfl rfl 2 (by decide) w_12 (fun _ h9 => h9) rfl (by decide +kernel) rfl rfl (Nat.le_of_ble_eq_true rfl) dX0_init_50 (fun H locs hP hD hS => ?_)
                have hP : va_P G.1 vwCl ([(ha, .inr (0, [.ref q7, .int (nI 0), .int (nI 0)])), (q7, .inl (G.2.2, 6, .inr (.inr (.inr (.inr (va_up (va_up (va_up (va_up (va_up (va_up (fun _ => none) 0 (some (an33_0 0))) 1 (some (an33_1 0))) 2 (some (an33_2 0))) 3 (some (an33_3 0))) 4 (some (an33_4 0))) 5 (some (an33_5 0))))))))] ++ (cST G an33_0 fI (nI 0) (nI 0) (fun _ _ => nI 0) ++ (cST G an33_1 fI (nI 0) (nI 0) (fun _ _ => nI 0) ++ (cST G an33_2 fI (nI 0) (nI 0) (fun _ _ => nI 0) ++ (cST G an33_3 fI (nI 0) (nI 0) (fun _ _ => nI 0) ++ (cST G an33_4 fI (nI 0) (nI 0) (fun _ _ => nI 0) ++ (cST G an33_5 fI (nI 0) (nI 0) (fun _ _ => nI 0) ++ ([])))))))) H := hP
                have hD : va_D A ([(ha, .inr (0, [.ref q7, .int (nI 0), .int (nI 0)])), (q7, .inl (G.2.2, 6, .inr (.inr (.inr (.inr (va_up (va_up (va_up (va_up (va_up (va_up (fun _ => none) 0 (some (an33_0 0))) 1 (some (an33_1 0))) 2 (some (an33_2 0))) 3 (some (an33_3 0))) 4 (some (an33_4 0))) 5 (some (an33_5 0))))))))] ++ (cST G an33_0 fI (nI 0) (nI 0) (fun _ _ => nI 0) ++ (cST G an33_1 fI (nI 0) (nI 0) (fun _ _ => nI 0) ++ (cST G an33_2 fI (nI 0) (nI 0) (fun _ _ => nI 0) ++ (cST G an33_3 fI (nI 0) (nI 0) (fun _ _ => nI 0) ++ (cST G an33_4 fI (nI 0) (nI 0) (fun _ _ => nI 0) ++ (cST G an33_5 fI (nI 0) (nI 0) (fun _ _ => nI 0) ++ ([])))))))) := hD
                replace hP := P_extq (ws' := ([(ha, .inr (0, [.ref q7, .int (nI 0), .int (nI 0)])), (q7, .inl (G.2.2, 6, .inr (.inr (.inr (.inr (fun j => some ((fun k => [an33_0, an33_1, an33_2, an33_3, an33_4, an33_5].getD k an33_0) j 0)))))))] ++ (cST G an33_0 fI (nI 0) (nI 0) (fun _ _ => nI 0) ++ (cST G an33_1 fI (nI 0) (nI 0) (fun _ _ => nI 0) ++ (cST G an33_2 fI (nI 0) (nI 0) (fun _ _ => nI 0) ++ (cST G an33_3 fI (nI 0) (nI 0) (fun _ _ => nI 0) ++ (cST G an33_4 fI (nI 0) (nI 0) (fun _ _ => nI 0) ++ (cST G an33_5 fI (nI 0) (nI 0) (fun _ _ => nI 0) ++ ([]))))))))) (g := fun j => some ((fun k => [an33_0, an33_1, an33_2, an33_3, an33_4, an33_5].getD k an33_0) j 0)) 1 rfl rfl (fun j hj => by rcases six hj with rfl | rfl | rfl | rfl | rfl | rfl <;> rfl) hP
                replace hD := va_D.set (p := 1) (e := .inl (G.2.2, 6, .inr (.inr (.inr (.inr (fun j => some ((fun k => [an33_0, an33_1, an33_2, an33_3, an33_4, an33_5].getD k an33_0) j 0))))))) hD rfl
                refine W.widen (k := 103) (n := 828) (Nat.le_of_ble_eq_true rfl) (Nat.le_of_ble_eq_true rfl) ?_
                exact W.vret hx hb hr (fun t ht hW => ⟨rfl, by rw [ht]; exact ⟨q7, (fun k => [an33_0, an33_1, an33_2, an33_3, an33_4, an33_5].getD k an33_0), hP, hD⟩, hS.F ht⟩) hS.2.2 dX0_init_53
              · skip
                omega
set_option maxHeartbeats 4000000 in
set_option maxRecDepth 100000 in
theorem c_X5_init (l : Launch) (G : eG) (lo : Nat) (fe sz : Nat) (hlo : lo ≤ fe) (hlz : lo ≤ sz) : Met l yX5_init wsX5_init ({ frames := 4, cells := 157, slots := 1306, locals := 103 }) (PF lo [.ref fe] G (fun H => H.size = sz ∧ va_P G.1 vwCl [(fe, .inr (5, [.null, .null, .null, .null, .null, .int (nI 0)]))] H)) (MV none (fun H => ∃ (an tn sn : Nat → Nat) (ha sv : Nat) (aa : Nat → Nat → Nat) (oa co : Nat), va_P G.1 vwCl ([(fe, .inr (5, [.ref (an 0), .ref (tn 0), .ref (sn 0), .ref ha, .ref oa, .int (nI 0)]))] ++ (cST G an fI (nI 0) (nI 0) (fun _ _ => nI 0) ++ (cST G tn fI (nI 0) (nI 0) (fun _ _ => nI 0) ++ (cST G sn fI (nI 0) (nI 0) (fun _ _ => nI 0) ++ (cHI G ha sv 0 0 (fun k => aa k 0) ++ (cST G (aa 0) fI (nI 0) (nI 0) (fun _ _ => nI 0) ++ (cST G (aa 1) fI (nI 0) (nI 0) (fun _ _ => nI 0) ++ (cST G (aa 2) fI (nI 0) (nI 0) (fun _ _ => nI 0) ++ (cST G (aa 3) fI (nI 0) (nI 0) (fun _ _ => nI 0) ++ (cST G (aa 4) fI (nI 0) (nI 0) (fun _ _ => nI 0) ++ (cST G (aa 5) fI (nI 0) (nI 0) (fun _ _ => nI 0) ++ ([(oa, .inr (2, [.ref co, .int (nI 0), .int (nI 0), .int (nI 0)])), (co, .inl (G.2.1, 60, .inl (fun _ => nI 0)))] ++ ([]))))))))))))) H ∧ va_D (va_A [(fe, .inr (5, [.null, .null, .null, .null, .null, .int (nI 0)]))] sz) ([(fe, .inr (5, [.ref (an 0), .ref (tn 0), .ref (sn 0), .ref ha, .ref oa, .int (nI 0)]))] ++ (cST G an fI (nI 0) (nI 0) (fun _ _ => nI 0) ++ (cST G tn fI (nI 0) (nI 0) (fun _ _ => nI 0) ++ (cST G sn fI (nI 0) (nI 0) (fun _ _ => nI 0) ++ (cHI G ha sv 0 0 (fun k => aa k 0) ++ (cST G (aa 0) fI (nI 0) (nI 0) (fun _ _ => nI 0) ++ (cST G (aa 1) fI (nI 0) (nI 0) (fun _ _ => nI 0) ++ (cST G (aa 2) fI (nI 0) (nI 0) (fun _ _ => nI 0) ++ (cST G (aa 3) fI (nI 0) (nI 0) (fun _ _ => nI 0) ++ (cST G (aa 4) fI (nI 0) (nI 0) (fun _ _ => nI 0) ++ (cST G (aa 5) fI (nI 0) (nI 0) (fun _ _ => nI 0) ++ ([(oa, .inr (2, [.ref co, .int (nI 0), .int (nI 0), .int (nI 0)])), (co, .inl (G.2.1, 60, .inl (fun _ => nI 0)))] ++ ([])))))))))))))) (va_A [(fe, .inr (5, [.null, .null, .null, .null, .null, .int (nI 0)]))] sz)) 157 1306 (va_A [(fe, .inr (5, [.null, .null, .null, .null, .null, .int (nI 0)]))] sz) := by
  refine ofBFX (cc := cX5_init) (maxL := 1) (ret := none) (by decide) rfl (Nat.le_of_ble_eq_true rfl) ?_
  intro p e s m below meth c hx hb hr hlocks hml hown hin hts hE hF0 hI ls hl
  replace hown : s.vm.findClass RX5 = some m.cls := hown
  have hl : lv_has ls 1 [(0, .ref fe)] := hl
  obtain ⟨hsz, hP⟩ := hI
  subst hsz
  have hD : va_D (va_A [(fe, .inr (5, [.null, .null, .null, .null, .null, .int (nI 0)]))] s.heap.size) [(fe, .inr (5, [.null, .null, .null, .null, .null, .int (nI 0)]))] := D_one (A_one.mpr (Or.inl rfl))
  have hA : ∀ q, s.heap.size ≤ q → va_A [(fe, .inr (5, [.null, .null, .null, .null, .null, .int (nI 0)]))] s.heap.size q := fun q h => Or.inr h
  have hAl : ∀ q, va_A [(fe, .inr (5, [.null, .null, .null, .null, .null, .int (nI 0)]))] s.heap.size q → lo ≤ q := fun q h => by
    rcases A_one.mp h with h | h
    · rw [h]; exact hlo
    · exact Nat.le_trans hlz h
  obtain ⟨A, hAe⟩ : ∃ A, A = va_A [(fe, .inr (5, [.null, .null, .null, .null, .null, .int (nI 0)]))] s.heap.size := ⟨_, rfl⟩
  rw [← hAe] at hD hA hAl ⊢
  have hS : va_S A s.heap s.heap [] := va_S.rf
  obtain ⟨H, hHe⟩ : ∃ H, H = s.heap := ⟨_, rfl⟩
  obtain ⟨locs, hle⟩ : ∃ q : List Loc, q = [] := ⟨_, rfl⟩
  rw [← hle] at hS ⊢
  have hP : va_P G.1 vwCl [(fe, .inr (5, [.null, .null, .null, .null, .null, .int (nI 0)]))] H := by rw [hHe]; exact hP
  replace hS : va_S A s.heap H locs := by rw [hHe]; exact hS
  refine tH hHe ?_
  have w_0 := hts (.methodLink RX5 1 objectInit) (by decide +kernel)
  have w_1 := hts (.instanceMethod objectInit) (by decide +kernel)
  have w_2 := hts (.code objectInit ⟨#[0xb1]⟩ 1 none) (by decide +kernel)
  have w_3 : ∀ w ∈ u_ws RX3 TX3 14, w ∈ wsX5_init := by decide +kernel
  have w_4 := hts (.classLink RX5 7 RX3) (by decide +kernel)
  have w_5 := hts (.instantiable RX3 14) (by decide +kernel)
  have w_6 := hts (.initialized RX3) (by decide +kernel)
  have w_7 := hts (.methodLink RX5 9 yX3_init) (by decide +kernel)
  have w_8 := hts (.instanceMethod yX3_init) (by decide +kernel)
  have w_9 : ∀ w ∈ u_ws RX5 TX5 6, w ∈ wsX5_init := by decide +kernel
  have w_10 := hts (.fieldLink RX5 10 "CableFerry" "now" "LCableFerry$State;") (by decide +kernel)
  have w_11 := hts (.fieldLink RX5 16 "CableFerry" "trial" "LCableFerry$State;") (by decide +kernel)
  have w_12 := hts (.fieldLink RX5 19 "CableFerry" "snapshot" "LCableFerry$State;") (by decide +kernel)
  have w_13 : ∀ w ∈ u_ws RX0 TX0 3, w ∈ wsX5_init := by decide +kernel
  have w_14 := hts (.classLink RX5 22 RX0) (by decide +kernel)
  have w_15 := hts (.instantiable RX0 3) (by decide +kernel)
  have w_16 := hts (.initialized RX0) (by decide +kernel)
  have w_17 := hts (.methodLink RX5 24 yX0_init) (by decide +kernel)
  have w_18 := hts (.instanceMethod yX0_init) (by decide +kernel)
  have w_19 := hts (.fieldLink RX5 25 "CableFerry" "history" "LCableFerry$History;") (by decide +kernel)
  have w_20 : ∀ w ∈ u_ws RX2 TX2 4, w ∈ wsX5_init := by decide +kernel
  have w_21 := hts (.classLink RX5 29 RX2) (by decide +kernel)
  have w_22 := hts (.instantiable RX2 4) (by decide +kernel)
  have w_23 := hts (.initialized RX2) (by decide +kernel)
  have w_24 := hts (.methodLink RX5 31 yX2_init) (by decide +kernel)
  have w_25 := hts (.instanceMethod yX2_init) (by decide +kernel)
  have w_26 := hts (.fieldLink RX5 32 "CableFerry" "orders" "LCableFerry$Orders;") (by decide +kernel)
  have w_27 := hts (.fieldLink RX5 36 "CableFerry" "hasSnapshot" "Z") (by decide +kernel)
  refine lv_aload_n hx hb dX5_init_0 rfl (lv_at hl 0 rfl) ?_
  refine W.objInit hx hb hown w_0 w_1 w_2 rfl (hl.1.trans hml.symm) rfl dX5_init_1 (Nat.le_of_ble_eq_true rfl) (Nat.le_of_ble_eq_true rfl) ?_
  refine W.eq (g2 := F0 m 4 ls []) rfl ?_
  replace hP : va_P G.1 vwCl ([(fe, .inr (5, [.null, .null, .null, .null, .null, .int (nI 0)]))] ++ ([])) H := by simpa only [List.append_assoc, List.nil_append, List.append_nil] using hP
  replace hD : va_D A ([(fe, .inr (5, [.null, .null, .null, .null, .null, .int (nI 0)]))] ++ ([])) := by simpa only [List.append_assoc, List.nil_append, List.append_nil] using hD
  refine lv_aload_n hx hb dX5_init_4 rfl (lv_at hl 0 rfl) ?_
  refine va_new (ci := 3) (fs := [.null, .null, .null, .null, .null, .null, .null, .int (nI 0), .int (nI 0), .int (nI 0), .int (nI 0), .int (nI 0), .int (nI 0), .int (nI 0)]) (C := RX3) (T := TX3) (N := 14) hx hb hts w_3 tyX3 tyX3_ok hown w_4 w_5 w_6 hE.1 hP hD hS hA rfl (fun j hj => by rcases (show j = 0 ∨ j = 1 ∨ j = 2 ∨ j = 3 ∨ j = 4 ∨ j = 5 ∨ j = 6 ∨ j = 7 ∨ j = 8 ∨ j = 9 ∨ j = 10 ∨ j = 11 ∨ j = 12 ∨ j = 13 by omega) with rfl | rfl | rfl | rfl | rfl | rfl | rfl | rfl | rfl | rfl | rfl | rfl | rfl | rfl <;> rfl) (Nat.le_of_ble_eq_true rfl) (Nat.le_of_ble_eq_true rfl) dX5_init_5 (fun q5 H hP hD hS => ?_)
  refine W.widen (k := 1) (n := 14) (Nat.le_of_ble_eq_true rfl) (Nat.le_of_ble_eq_true rfl) ?_
  refine lv_dup hx hb dX5_init_8 rfl ?_
  have hFc := frC hD hS hA
  refine mcall (st1 := [.ref q5, .ref fe]) (va_runI (As := []) (rest := [.ref q5, .ref fe]) ⟨hx, hb, hml, hown, hts⟩ (c_X3_init l G lo q5 H.size (hAl _ (D_last hD)) (Nat.le_trans hlz hS.1)) (cwI 0 hts gX5_init_X3_init rfl rfl rfl w_6 w_7 w_8 rfl (by decide +kernel) ⟨Nat.le_of_ble_eq_true rfl, Nat.le_of_ble_eq_true rfl⟩) (PF.preS hE (hF0.kept (fun a h1 h2 => hS.2.1 a h1 (fun h => h2 (hAl a h)))) ⟨rfl, P_last hP⟩) rfl rfl hl.1 rfl (lv_room (Nat.le_of_ble_eq_true rfl)) dX5_init_9 ⟨Nat.le_of_ble_eq_true rfl, Nat.le_of_ble_eq_true rfl⟩) hS (fun x _ h => hFc x h) hFc rfl (fun H1 locs1 hB hz1 hk1 hS => ?_)
  refine W.widen (k := 17) (n := 137) (Nat.le_of_ble_eq_true rfl) (Nat.le_of_ble_eq_true rfl) ?_
  obtain ⟨an9, ea9, hP1, hD1⟩ := hB
  obtain ⟨hP, hD⟩ := jnC hP hD hFc hk1 hP1 hD1
  clear hP1 hD1 hFc
  generalize H1 = H at hP hS ⊢
  replace hP : va_P G.1 vwCl ([(fe, .inr (5, [.null, .null, .null, .null, .null, .int (nI 0)]))] ++ (cST G an9 fI (nI 0) (nI 0) (fun _ _ => nI 0) ++ ([]))) H := by simpa only [List.append_assoc, List.nil_append, List.append_nil] using hP
  replace hD : va_D A ([(fe, .inr (5, [.null, .null, .null, .null, .null, .int (nI 0)]))] ++ (cST G an9 fI (nI 0) (nI 0) (fun _ _ => nI 0) ++ ([]))) := by simpa only [List.append_assoc, List.nil_append, List.append_nil] using hD
  refine tS (st' := [.ref (an9 0), .ref fe]) (by rw [ea9]) ?_
  refine va_putF (D := G.1) (ci := 5) (v := .ref (an9 0)) (ty := .object "CableFerry$State") (C := RX5) (T := TX5) (N := 6) hx hb hts w_9 tyX5 tyX5_ok nmX5 hown hE.1 hP hD hS 0 rfl rfl 0 (by decide) w_10 (fun _ h9 => h9) rfl hin rfl (by decide +kernel) rfl rfl (Nat.le_of_ble_eq_true rfl) dX5_init_12 (fun H locs hP hD hS => ?_)
  have hP : va_P G.1 vwCl ([(fe, .inr (5, [.ref (an9 0), .null, .null, .null, .null, .int (nI 0)]))] ++ (cST G an9 fI (nI 0) (nI 0) (fun _ _ => nI 0) ++ ([]))) H := hP
  have hD : va_D A ([(fe, .inr (5, [.ref (an9 0), .null, .null, .null, .null, .int (nI 0)]))] ++ (cST G an9 fI (nI 0) (nI 0) (fun _ _ => nI 0) ++ ([]))) := hD
  refine lv_aload_n hx hb dX5_init_15 rfl (lv_at hl 0 rfl) ?_
  refine va_new (ci := 3) (fs := [.null, .null, .null, .null, .null, .null, .null, .int (nI 0), .int (nI 0), .int (nI 0), .int (nI 0), .int (nI 0), .int (nI 0), .int (nI 0)]) (C := RX3) (T := TX3) (N := 14) hx hb hts w_3 tyX3 tyX3_ok hown w_4 w_5 w_6 hE.1 hP hD hS hA rfl (fun j hj => by rcases (show j = 0 ∨ j = 1 ∨ j = 2 ∨ j = 3 ∨ j = 4 ∨ j = 5 ∨ j = 6 ∨ j = 7 ∨ j = 8 ∨ j = 9 ∨ j = 10 ∨ j = 11 ∨ j = 12 ∨ j = 13 by omega) with rfl | rfl | rfl | rfl | rfl | rfl | rfl | rfl | rfl | rfl | rfl | rfl | rfl | rfl <;> rfl) (Nat.le_of_ble_eq_true rfl) (Nat.le_of_ble_eq_true rfl) dX5_init_16 (fun q16 H hP hD hS => ?_)
  refine W.widen (k := 18) (n := 151) (Nat.le_of_ble_eq_true rfl) (Nat.le_of_ble_eq_true rfl) ?_
  refine lv_dup hx hb dX5_init_19 rfl ?_
  have hFc := frC hD hS hA
  refine mcall (st1 := [.ref q16, .ref fe]) (va_runI (As := []) (rest := [.ref q16, .ref fe]) ⟨hx, hb, hml, hown, hts⟩ (c_X3_init l G lo q16 H.size (hAl _ (D_last hD)) (Nat.le_trans hlz hS.1)) (cwI 0 hts gX5_init_X3_init rfl rfl rfl w_6 w_7 w_8 rfl (by decide +kernel) ⟨Nat.le_of_ble_eq_true rfl, Nat.le_of_ble_eq_true rfl⟩) (PF.preS hE (hF0.kept (fun a h1 h2 => hS.2.1 a h1 (fun h => h2 (hAl a h)))) ⟨rfl, P_last hP⟩) rfl rfl hl.1 rfl (lv_room (Nat.le_of_ble_eq_true rfl)) dX5_init_20 ⟨Nat.le_of_ble_eq_true rfl, Nat.le_of_ble_eq_true rfl⟩) hS (fun x _ h => hFc x h) hFc rfl (fun H1 locs1 hB hz1 hk1 hS => ?_)
  refine W.widen (k := 34) (n := 274) (Nat.le_of_ble_eq_true rfl) (Nat.le_of_ble_eq_true rfl) ?_
  obtain ⟨an20, ea20, hP1, hD1⟩ := hB
  obtain ⟨hP, hD⟩ := jnC hP hD hFc hk1 hP1 hD1
  clear hP1 hD1 hFc
  generalize H1 = H at hP hS ⊢
  replace hP : va_P G.1 vwCl ([(fe, .inr (5, [.ref (an9 0), .null, .null, .null, .null, .int (nI 0)]))] ++ (cST G an9 fI (nI 0) (nI 0) (fun _ _ => nI 0) ++ (cST G an20 fI (nI 0) (nI 0) (fun _ _ => nI 0) ++ ([])))) H := by simpa only [List.append_assoc, List.nil_append, List.append_nil] using hP
  replace hD : va_D A ([(fe, .inr (5, [.ref (an9 0), .null, .null, .null, .null, .int (nI 0)]))] ++ (cST G an9 fI (nI 0) (nI 0) (fun _ _ => nI 0) ++ (cST G an20 fI (nI 0) (nI 0) (fun _ _ => nI 0) ++ ([])))) := by simpa only [List.append_assoc, List.nil_append, List.append_nil] using hD
  refine tS (st' := [.ref (an20 0), .ref fe]) (by rw [ea20]) ?_
  refine va_putF (D := G.1) (ci := 5) (v := .ref (an20 0)) (ty := .object "CableFerry$State") (C := RX5) (T := TX5) (N := 6) hx hb hts w_9 tyX5 tyX5_ok nmX5 hown hE.1 hP hD hS 0 rfl rfl 1 (by decide) w_11 (fun _ h9 => h9) rfl hin rfl (by decide +kernel) rfl rfl (Nat.le_of_ble_eq_true rfl) dX5_init_23 (fun H locs hP hD hS => ?_)
  have hP : va_P G.1 vwCl ([(fe, .inr (5, [.ref (an9 0), .ref (an20 0), .null, .null, .null, .int (nI 0)]))] ++ (cST G an9 fI (nI 0) (nI 0) (fun _ _ => nI 0) ++ (cST G an20 fI (nI 0) (nI 0) (fun _ _ => nI 0) ++ ([])))) H := hP
  have hD : va_D A ([(fe, .inr (5, [.ref (an9 0), .ref (an20 0), .null, .null, .null, .int (nI 0)]))] ++ (cST G an9 fI (nI 0) (nI 0) (fun _ _ => nI 0) ++ (cST G an20 fI (nI 0) (nI 0) (fun _ _ => nI 0) ++ ([])))) := hD
  refine lv_aload_n hx hb dX5_init_26 rfl (lv_at hl 0 rfl) ?_
  refine va_new (ci := 3) (fs := [.null, .null, .null, .null, .null, .null, .null, .int (nI 0), .int (nI 0), .int (nI 0), .int (nI 0), .int (nI 0), .int (nI 0), .int (nI 0)]) (C := RX3) (T := TX3) (N := 14) hx hb hts w_3 tyX3 tyX3_ok hown w_4 w_5 w_6 hE.1 hP hD hS hA rfl (fun j hj => by rcases (show j = 0 ∨ j = 1 ∨ j = 2 ∨ j = 3 ∨ j = 4 ∨ j = 5 ∨ j = 6 ∨ j = 7 ∨ j = 8 ∨ j = 9 ∨ j = 10 ∨ j = 11 ∨ j = 12 ∨ j = 13 by omega) with rfl | rfl | rfl | rfl | rfl | rfl | rfl | rfl | rfl | rfl | rfl | rfl | rfl | rfl <;> rfl) (Nat.le_of_ble_eq_true rfl) (Nat.le_of_ble_eq_true rfl) dX5_init_27 (fun q27 H hP hD hS => ?_)
  refine W.widen (k := 35) (n := 288) (Nat.le_of_ble_eq_true rfl) (Nat.le_of_ble_eq_true rfl) ?_
  refine lv_dup hx hb dX5_init_30 rfl ?_
  have hFc := frC hD hS hA
  refine mcall (st1 := [.ref q27, .ref fe]) (va_runI (As := []) (rest := [.ref q27, .ref fe]) ⟨hx, hb, hml, hown, hts⟩ (c_X3_init l G lo q27 H.size (hAl _ (D_last hD)) (Nat.le_trans hlz hS.1)) (cwI 0 hts gX5_init_X3_init rfl rfl rfl w_6 w_7 w_8 rfl (by decide +kernel) ⟨Nat.le_of_ble_eq_true rfl, Nat.le_of_ble_eq_true rfl⟩) (PF.preS hE (hF0.kept (fun a h1 h2 => hS.2.1 a h1 (fun h => h2 (hAl a h)))) ⟨rfl, P_last hP⟩) rfl rfl hl.1 rfl (lv_room (Nat.le_of_ble_eq_true rfl)) dX5_init_31 ⟨Nat.le_of_ble_eq_true rfl, Nat.le_of_ble_eq_true rfl⟩) hS (fun x _ h => hFc x h) hFc rfl (fun H1 locs1 hB hz1 hk1 hS => ?_)
  refine W.widen (k := 51) (n := 411) (Nat.le_of_ble_eq_true rfl) (Nat.le_of_ble_eq_true rfl) ?_
  obtain ⟨an31, ea31, hP1, hD1⟩ := hB
  obtain ⟨hP, hD⟩ := jnC hP hD hFc hk1 hP1 hD1
  clear hP1 hD1 hFc
  generalize H1 = H at hP hS ⊢
  replace hP : va_P G.1 vwCl ([(fe, .inr (5, [.ref (an9 0), .ref (an20 0), .null, .null, .null, .int (nI 0)]))] ++ (cST G an9 fI (nI 0) (nI 0) (fun _ _ => nI 0) ++ (cST G an20 fI (nI 0) (nI 0) (fun _ _ => nI 0) ++ (cST G an31 fI (nI 0) (nI 0) (fun _ _ => nI 0) ++ ([]))))) H := by simpa only [List.append_assoc, List.nil_append, List.append_nil] using hP
  replace hD : va_D A ([(fe, .inr (5, [.ref (an9 0), .ref (an20 0), .null, .null, .null, .int (nI 0)]))] ++ (cST G an9 fI (nI 0) (nI 0) (fun _ _ => nI 0) ++ (cST G an20 fI (nI 0) (nI 0) (fun _ _ => nI 0) ++ (cST G an31 fI (nI 0) (nI 0) (fun _ _ => nI 0) ++ ([]))))) := by simpa only [List.append_assoc, List.nil_append, List.append_nil] using hD
  refine tS (st' := [.ref (an31 0), .ref fe]) (by rw [ea31]) ?_
  refine va_putF (D := G.1) (ci := 5) (v := .ref (an31 0)) (ty := .object "CableFerry$State") (C := RX5) (T := TX5) (N := 6) hx hb hts w_9 tyX5 tyX5_ok nmX5 hown hE.1 hP hD hS 0 rfl rfl 2 (by decide) w_12 (fun _ h9 => h9) rfl hin rfl (by decide +kernel) rfl rfl (Nat.le_of_ble_eq_true rfl) dX5_init_34 (fun H locs hP hD hS => ?_)
  have hP : va_P G.1 vwCl ([(fe, .inr (5, [.ref (an9 0), .ref (an20 0), .ref (an31 0), .null, .null, .int (nI 0)]))] ++ (cST G an9 fI (nI 0) (nI 0) (fun _ _ => nI 0) ++ (cST G an20 fI (nI 0) (nI 0) (fun _ _ => nI 0) ++ (cST G an31 fI (nI 0) (nI 0) (fun _ _ => nI 0) ++ ([]))))) H := hP
  have hD : va_D A ([(fe, .inr (5, [.ref (an9 0), .ref (an20 0), .ref (an31 0), .null, .null, .int (nI 0)]))] ++ (cST G an9 fI (nI 0) (nI 0) (fun _ _ => nI 0) ++ (cST G an20 fI (nI 0) (nI 0) (fun _ _ => nI 0) ++ (cST G an31 fI (nI 0) (nI 0) (fun _ _ => nI 0) ++ ([]))))) := hD
  refine lv_aload_n hx hb dX5_init_37 rfl (lv_at hl 0 rfl) ?_
  refine va_new (ci := 0) (fs := [.null, .int (nI 0), .int (nI 0)]) (C := RX0) (T := TX0) (N := 3) hx hb hts w_13 tyX0 tyX0_ok hown w_14 w_15 w_16 hE.1 hP hD hS hA rfl (fun j hj => by rcases (show j = 0 ∨ j = 1 ∨ j = 2 by omega) with rfl | rfl | rfl <;> rfl) (Nat.le_of_ble_eq_true rfl) (Nat.le_of_ble_eq_true rfl) dX5_init_38 (fun q38 H hP hD hS => ?_)
  refine W.widen (k := 52) (n := 414) (Nat.le_of_ble_eq_true rfl) (Nat.le_of_ble_eq_true rfl) ?_
  refine lv_dup hx hb dX5_init_41 rfl ?_
  have hFc := frC hD hS hA
  refine mcall (st1 := [.ref q38, .ref fe]) (va_runI (As := []) (rest := [.ref q38, .ref fe]) ⟨hx, hb, hml, hown, hts⟩ (c_X0_init l G lo q38 H.size (hAl _ (D_last hD)) (Nat.le_trans hlz hS.1)) (cwI 0 hts gX5_init_X0_init rfl rfl rfl w_16 w_17 w_18 rfl (by decide +kernel) ⟨Nat.le_of_ble_eq_true rfl, Nat.le_of_ble_eq_true rfl⟩) (PF.preS hE (hF0.kept (fun a h1 h2 => hS.2.1 a h1 (fun h => h2 (hAl a h)))) ⟨rfl, P_last hP⟩) rfl rfl hl.1 rfl (lv_room (Nat.le_of_ble_eq_true rfl)) dX5_init_42 ⟨Nat.le_of_ble_eq_true rfl, Nat.le_of_ble_eq_true rfl⟩) hS (fun x _ h => hFc x h) hFc rfl (fun H1 locs1 hB hz1 hk1 hS => ?_)
  refine W.widen (k := 155) (n := 1242) (Nat.le_of_ble_eq_true rfl) (Nat.le_of_ble_eq_true rfl) ?_
  obtain ⟨sv42, aa42, hP1, hD1⟩ := hB
  obtain ⟨hP, hD⟩ := jnC hP hD hFc hk1 hP1 hD1
  clear hP1 hD1 hFc
  generalize H1 = H at hP hS ⊢
  replace hP : va_P G.1 vwCl ([(fe, .inr (5, [.ref (an9 0), .ref (an20 0), .ref (an31 0), .null, .null, .int (nI 0)]))] ++ (cST G an9 fI (nI 0) (nI 0) (fun _ _ => nI 0) ++ (cST G an20 fI (nI 0) (nI 0) (fun _ _ => nI 0) ++ (cST G an31 fI (nI 0) (nI 0) (fun _ _ => nI 0) ++ (cHI G q38 sv42 0 0 (fun k => aa42 k 0) ++ (cST G (aa42 0) fI (nI 0) (nI 0) (fun _ _ => nI 0) ++ (cST G (aa42 1) fI (nI 0) (nI 0) (fun _ _ => nI 0) ++ (cST G (aa42 2) fI (nI 0) (nI 0) (fun _ _ => nI 0) ++ (cST G (aa42 3) fI (nI 0) (nI 0) (fun _ _ => nI 0) ++ (cST G (aa42 4) fI (nI 0) (nI 0) (fun _ _ => nI 0) ++ (cST G (aa42 5) fI (nI 0) (nI 0) (fun _ _ => nI 0) ++ ([])))))))))))) H := by simpa only [List.append_assoc, List.nil_append, List.append_nil] using hP
  replace hD : va_D A ([(fe, .inr (5, [.ref (an9 0), .ref (an20 0), .ref (an31 0), .null, .null, .int (nI 0)]))] ++ (cST G an9 fI (nI 0) (nI 0) (fun _ _ => nI 0) ++ (cST G an20 fI (nI 0) (nI 0) (fun _ _ => nI 0) ++ (cST G an31 fI (nI 0) (nI 0) (fun _ _ => nI 0) ++ (cHI G q38 sv42 0 0 (fun k => aa42 k 0) ++ (cST G (aa42 0) fI (nI 0) (nI 0) (fun _ _ => nI 0) ++ (cST G (aa42 1) fI (nI 0) (nI 0) (fun _ _ => nI 0) ++ (cST G (aa42 2) fI (nI 0) (nI 0) (fun _ _ => nI 0) ++ (cST G (aa42 3) fI (nI 0) (nI 0) (fun _ _ => nI 0) ++ (cST G (aa42 4) fI (nI 0) (nI 0) (fun _ _ => nI 0) ++ (cST G (aa42 5) fI (nI 0) (nI 0) (fun _ _ => nI 0) ++ ([])))))))))))) := by simpa only [List.append_assoc, List.nil_append, List.append_nil] using hD
  refine va_putF (D := G.1) (ci := 5) (v := .ref q38) (ty := .object "CableFerry$History") (C := RX5) (T := TX5) (N := 6) hx hb hts w_9 tyX5 tyX5_ok nmX5 hown hE.1 hP hD hS 0 rfl rfl 3 (by decide) w_19 (fun _ h9 => h9) rfl hin rfl (by decide +kernel) rfl rfl (Nat.le_of_ble_eq_true rfl) dX5_init_45 (fun H locs hP hD hS => ?_)
  have hP : va_P G.1 vwCl ([(fe, .inr (5, [.ref (an9 0), .ref (an20 0), .ref (an31 0), .ref q38, .null, .int (nI 0)]))] ++ (cST G an9 fI (nI 0) (nI 0) (fun _ _ => nI 0) ++ (cST G an20 fI (nI 0) (nI 0) (fun _ _ => nI 0) ++ (cST G an31 fI (nI 0) (nI 0) (fun _ _ => nI 0) ++ (cHI G q38 sv42 0 0 (fun k => aa42 k 0) ++ (cST G (aa42 0) fI (nI 0) (nI 0) (fun _ _ => nI 0) ++ (cST G (aa42 1) fI (nI 0) (nI 0) (fun _ _ => nI 0) ++ (cST G (aa42 2) fI (nI 0) (nI 0) (fun _ _ => nI 0) ++ (cST G (aa42 3) fI (nI 0) (nI 0) (fun _ _ => nI 0) ++ (cST G (aa42 4) fI (nI 0) (nI 0) (fun _ _ => nI 0) ++ (cST G (aa42 5) fI (nI 0) (nI 0) (fun _ _ => nI 0) ++ ([])))))))))))) H := hP
  have hD : va_D A ([(fe, .inr (5, [.ref (an9 0), .ref (an20 0), .ref (an31 0), .ref q38, .null, .int (nI 0)]))] ++ (cST G an9 fI (nI 0) (nI 0) (fun _ _ => nI 0) ++ (cST G an20 fI (nI 0) (nI 0) (fun _ _ => nI 0) ++ (cST G an31 fI (nI 0) (nI 0) (fun _ _ => nI 0) ++ (cHI G q38 sv42 0 0 (fun k => aa42 k 0) ++ (cST G (aa42 0) fI (nI 0) (nI 0) (fun _ _ => nI 0) ++ (cST G (aa42 1) fI (nI 0) (nI 0) (fun _ _ => nI 0) ++ (cST G (aa42 2) fI (nI 0) (nI 0) (fun _ _ => nI 0) ++ (cST G (aa42 3) fI (nI 0) (nI 0) (fun _ _ => nI 0) ++ (cST G (aa42 4) fI (nI 0) (nI 0) (fun _ _ => nI 0) ++ (cST G (aa42 5) fI (nI 0) (nI 0) (fun _ _ => nI 0) ++ ([])))))))))))) := hD
  refine lv_aload_n hx hb dX5_init_48 rfl (lv_at hl 0 rfl) ?_
  refine va_new (ci := 2) (fs := [.null, .int (nI 0), .int (nI 0), .int (nI 0)]) (C := RX2) (T := TX2) (N := 4) hx hb hts w_20 tyX2 tyX2_ok hown w_21 w_22 w_23 hE.1 hP hD hS hA rfl (fun j hj => by rcases (show j = 0 ∨ j = 1 ∨ j = 2 ∨ j = 3 by omega) with rfl | rfl | rfl | rfl <;> rfl) (Nat.le_of_ble_eq_true rfl) (Nat.le_of_ble_eq_true rfl) dX5_init_49 (fun q49 H hP hD hS => ?_)
  refine W.widen (k := 156) (n := 1246) (Nat.le_of_ble_eq_true rfl) (Nat.le_of_ble_eq_true rfl) ?_
  refine lv_dup hx hb dX5_init_52 rfl ?_
  have hFc := frC hD hS hA
  refine mcall (st1 := [.ref q49, .ref fe]) (va_runI (As := []) (rest := [.ref q49, .ref fe]) ⟨hx, hb, hml, hown, hts⟩ (c_X2_init l G q49 H.size) (cwI 0 hts gX5_init_X2_init rfl rfl rfl w_23 w_24 w_25 rfl (by decide +kernel) ⟨Nat.le_of_ble_eq_true rfl, Nat.le_of_ble_eq_true rfl⟩) (PC.preS hE ⟨rfl, P_last hP⟩) rfl rfl hl.1 rfl (lv_room (Nat.le_of_ble_eq_true rfl)) dX5_init_53 ⟨Nat.le_of_ble_eq_true rfl, Nat.le_of_ble_eq_true rfl⟩) hS (fun x _ h => hFc x h) hFc rfl (fun H1 locs1 hB hz1 hk1 hS => ?_)
  refine W.widen (k := 157) (n := 1306) (Nat.le_of_ble_eq_true rfl) (Nat.le_of_ble_eq_true rfl) ?_
  obtain ⟨co53, hP1, hD1⟩ := hB
  obtain ⟨hP, hD⟩ := jnC hP hD hFc hk1 hP1 hD1
  clear hP1 hD1 hFc
  generalize H1 = H at hP hS ⊢
  replace hP : va_P G.1 vwCl ([(fe, .inr (5, [.ref (an9 0), .ref (an20 0), .ref (an31 0), .ref q38, .null, .int (nI 0)]))] ++ (cST G an9 fI (nI 0) (nI 0) (fun _ _ => nI 0) ++ (cST G an20 fI (nI 0) (nI 0) (fun _ _ => nI 0) ++ (cST G an31 fI (nI 0) (nI 0) (fun _ _ => nI 0) ++ (cHI G q38 sv42 0 0 (fun k => aa42 k 0) ++ (cST G (aa42 0) fI (nI 0) (nI 0) (fun _ _ => nI 0) ++ (cST G (aa42 1) fI (nI 0) (nI 0) (fun _ _ => nI 0) ++ (cST G (aa42 2) fI (nI 0) (nI 0) (fun _ _ => nI 0) ++ (cST G (aa42 3) fI (nI 0) (nI 0) (fun _ _ => nI 0) ++ (cST G (aa42 4) fI (nI 0) (nI 0) (fun _ _ => nI 0) ++ (cST G (aa42 5) fI (nI 0) (nI 0) (fun _ _ => nI 0) ++ ([(q49, .inr (2, [.ref co53, .int (nI 0), .int (nI 0), .int (nI 0)])), (co53, .inl (G.2.1, 60, .inl (fun _ => nI 0)))] ++ ([]))))))))))))) H := by simpa only [List.append_assoc, List.nil_append, List.append_nil] using hP
  replace hD : va_D A ([(fe, .inr (5, [.ref (an9 0), .ref (an20 0), .ref (an31 0), .ref q38, .null, .int (nI 0)]))] ++ (cST G an9 fI (nI 0) (nI 0) (fun _ _ => nI 0) ++ (cST G an20 fI (nI 0) (nI 0) (fun _ _ => nI 0) ++ (cST G an31 fI (nI 0) (nI 0) (fun _ _ => nI 0) ++ (cHI G q38 sv42 0 0 (fun k => aa42 k 0) ++ (cST G (aa42 0) fI (nI 0) (nI 0) (fun _ _ => nI 0) ++ (cST G (aa42 1) fI (nI 0) (nI 0) (fun _ _ => nI 0) ++ (cST G (aa42 2) fI (nI 0) (nI 0) (fun _ _ => nI 0) ++ (cST G (aa42 3) fI (nI 0) (nI 0) (fun _ _ => nI 0) ++ (cST G (aa42 4) fI (nI 0) (nI 0) (fun _ _ => nI 0) ++ (cST G (aa42 5) fI (nI 0) (nI 0) (fun _ _ => nI 0) ++ ([(q49, .inr (2, [.ref co53, .int (nI 0), .int (nI 0), .int (nI 0)])), (co53, .inl (G.2.1, 60, .inl (fun _ => nI 0)))] ++ ([]))))))))))))) := by simpa only [List.append_assoc, List.nil_append, List.append_nil] using hD
  refine va_putF (D := G.1) (ci := 5) (v := .ref q49) (ty := .object "CableFerry$Orders") (C := RX5) (T := TX5) (N := 6) hx hb hts w_9 tyX5 tyX5_ok nmX5 hown hE.1 hP hD hS 0 rfl rfl 4 (by decide) w_26 (fun _ h9 => h9) rfl hin rfl (by decide +kernel) rfl rfl (Nat.le_of_ble_eq_true rfl) dX5_init_56 (fun H locs hP hD hS => ?_)
  have hP : va_P G.1 vwCl ([(fe, .inr (5, [.ref (an9 0), .ref (an20 0), .ref (an31 0), .ref q38, .ref q49, .int (nI 0)]))] ++ (cST G an9 fI (nI 0) (nI 0) (fun _ _ => nI 0) ++ (cST G an20 fI (nI 0) (nI 0) (fun _ _ => nI 0) ++ (cST G an31 fI (nI 0) (nI 0) (fun _ _ => nI 0) ++ (cHI G q38 sv42 0 0 (fun k => aa42 k 0) ++ (cST G (aa42 0) fI (nI 0) (nI 0) (fun _ _ => nI 0) ++ (cST G (aa42 1) fI (nI 0) (nI 0) (fun _ _ => nI 0) ++ (cST G (aa42 2) fI (nI 0) (nI 0) (fun _ _ => nI 0) ++ (cST G (aa42 3) fI (nI 0) (nI 0) (fun _ _ => nI 0) ++ (cST G (aa42 4) fI (nI 0) (nI 0) (fun _ _ => nI 0) ++ (cST G (aa42 5) fI (nI 0) (nI 0) (fun _ _ => nI 0) ++ ([(q49, .inr (2, [.ref co53, .int (nI 0), .int (nI 0), .int (nI 0)])), (co53, .inl (G.2.1, 60, .inl (fun _ => nI 0)))] ++ ([]))))))))))))) H := hP
  have hD : va_D A ([(fe, .inr (5, [.ref (an9 0), .ref (an20 0), .ref (an31 0), .ref q38, .ref q49, .int (nI 0)]))] ++ (cST G an9 fI (nI 0) (nI 0) (fun _ _ => nI 0) ++ (cST G an20 fI (nI 0) (nI 0) (fun _ _ => nI 0) ++ (cST G an31 fI (nI 0) (nI 0) (fun _ _ => nI 0) ++ (cHI G q38 sv42 0 0 (fun k => aa42 k 0) ++ (cST G (aa42 0) fI (nI 0) (nI 0) (fun _ _ => nI 0) ++ (cST G (aa42 1) fI (nI 0) (nI 0) (fun _ _ => nI 0) ++ (cST G (aa42 2) fI (nI 0) (nI 0) (fun _ _ => nI 0) ++ (cST G (aa42 3) fI (nI 0) (nI 0) (fun _ _ => nI 0) ++ (cST G (aa42 4) fI (nI 0) (nI 0) (fun _ _ => nI 0) ++ (cST G (aa42 5) fI (nI 0) (nI 0) (fun _ _ => nI 0) ++ ([(q49, .inr (2, [.ref co53, .int (nI 0), .int (nI 0), .int (nI 0)])), (co53, .inl (G.2.1, 60, .inl (fun _ => nI 0)))] ++ ([]))))))))))))) := hD
  refine lv_aload_n hx hb dX5_init_59 rfl (lv_at hl 0 rfl) ?_
  refine lv_iconst (v := nI 0) hx hb dX5_init_60 (by decide +kernel) ?_
  refine va_put (D := G.1) (ci := 5) (v := .int (nI 0)) (ty := .boolean) (C := RX5) (T := TX5) (N := 6) hx hb hts w_9 tyX5 tyX5_ok nmX5 hown hE.1 hP hD hS 0 rfl rfl 5 (by decide) w_27 (fun _ h9 => h9) rfl (by decide +kernel) rfl (by decide +kernel) (Nat.le_of_ble_eq_true rfl) dX5_init_61 (fun H locs hP hD hS => ?_)
  have hP : va_P G.1 vwCl ([(fe, .inr (5, [.ref (an9 0), .ref (an20 0), .ref (an31 0), .ref q38, .ref q49, .int (nI 0)]))] ++ (cST G an9 fI (nI 0) (nI 0) (fun _ _ => nI 0) ++ (cST G an20 fI (nI 0) (nI 0) (fun _ _ => nI 0) ++ (cST G an31 fI (nI 0) (nI 0) (fun _ _ => nI 0) ++ (cHI G q38 sv42 0 0 (fun k => aa42 k 0) ++ (cST G (aa42 0) fI (nI 0) (nI 0) (fun _ _ => nI 0) ++ (cST G (aa42 1) fI (nI 0) (nI 0) (fun _ _ => nI 0) ++ (cST G (aa42 2) fI (nI 0) (nI 0) (fun _ _ => nI 0) ++ (cST G (aa42 3) fI (nI 0) (nI 0) (fun _ _ => nI 0) ++ (cST G (aa42 4) fI (nI 0) (nI 0) (fun _ _ => nI 0) ++ (cST G (aa42 5) fI (nI 0) (nI 0) (fun _ _ => nI 0) ++ ([(q49, .inr (2, [.ref co53, .int (nI 0), .int (nI 0), .int (nI 0)])), (co53, .inl (G.2.1, 60, .inl (fun _ => nI 0)))] ++ ([]))))))))))))) H := hP
  have hD : va_D A ([(fe, .inr (5, [.ref (an9 0), .ref (an20 0), .ref (an31 0), .ref q38, .ref q49, .int (nI 0)]))] ++ (cST G an9 fI (nI 0) (nI 0) (fun _ _ => nI 0) ++ (cST G an20 fI (nI 0) (nI 0) (fun _ _ => nI 0) ++ (cST G an31 fI (nI 0) (nI 0) (fun _ _ => nI 0) ++ (cHI G q38 sv42 0 0 (fun k => aa42 k 0) ++ (cST G (aa42 0) fI (nI 0) (nI 0) (fun _ _ => nI 0) ++ (cST G (aa42 1) fI (nI 0) (nI 0) (fun _ _ => nI 0) ++ (cST G (aa42 2) fI (nI 0) (nI 0) (fun _ _ => nI 0) ++ (cST G (aa42 3) fI (nI 0) (nI 0) (fun _ _ => nI 0) ++ (cST G (aa42 4) fI (nI 0) (nI 0) (fun _ _ => nI 0) ++ (cST G (aa42 5) fI (nI 0) (nI 0) (fun _ _ => nI 0) ++ ([(q49, .inr (2, [.ref co53, .int (nI 0), .int (nI 0), .int (nI 0)])), (co53, .inl (G.2.1, 60, .inl (fun _ => nI 0)))] ++ ([]))))))))))))) := hD
  refine W.widen (k := 157) (n := 1306) (Nat.le_of_ble_eq_true rfl) (Nat.le_of_ble_eq_true rfl) ?_
  exact W.vret hx hb hr (fun t ht hW => ⟨rfl, by rw [ht]; exact ⟨an9, an20, an31, q38, sv42, aa42, q49, co53, hP, hD⟩, hS.F ht⟩) hS.2.2 dX5_init_64

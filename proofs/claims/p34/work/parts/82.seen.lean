/-! all that undo() brings back, as one number -/
def fWt (f : Nat → Int32) (b j : Nat) : Int32 := if j < nn f (57 + 11 * b) then f (57 + 11 * b + 1 + j) else -1
def fDk (f : Nat → Int32) (q j x : Nat) : Int32 := if j < nn f (79 + 9 * q) then f (79 + 9 * q + 1 + 2 * j + x) else -1
def sn2 (f : Nat → Int32) (h : Int64) : Nat → Int64
  | 0 => h
  | k + 1 => 31 * (31 * sn2 f h k + (fWt f (k / 10) (k % 10)).toInt64) + (fDk f (k / 10) (k % 10 / 2) (k % 2)).toInt64
def sA (f : Nat → Int32) (k : Nat) : Int64 := mxL (fun j => (fCnt f 0 j).toInt64) 127 k
def sB (f : Nat → Int32) (k : Nat) : Int64 := mxL (fun j => (fOf f (j / 3) (j % 3)).toInt64) (sA f 13) k
def sC (f : Nat → Int32) (k : Nat) : Int64 := mxL (fun j => (f (3 + j)).toInt64) (sB f 60) k
def sD (f : Nat → Int32) (k : Nat) : Int64 := sn2 f (sC f 24) k
def sE (f : Nat → Int32) (k : Nat) : Int64 := mxL (fun j => (f j).toInt64) (sD f 20) k
def seenF (f : Nat → Int32) : Int64 := 31 * (31 * sE f 3 + (nI (nCr 100 f)).toInt64) + (fNd f).toInt64
theorem cnt_sz {f : Nat → Int32} {n k : Nat} (h : k < 13) : fCnt f n k = fCnt f 0 k := by
  rcases (show k = 0 ∨ k = 1 ∨ k = 2 ∨ k = 3 ∨ k = 4 ∨ k = 5 ∨ k = 6 ∨ k = 7 ∨ k = 8 ∨ k = 9 ∨ k = 10 ∨ k = 11 ∨ k = 12 by omega) with rfl | rfl | rfl | rfl | rfl | rfl | rfl | rfl | rfl | rfl | rfl | rfl | rfl <;> rfl
set_option maxHeartbeats 4000000 in
set_option maxRecDepth 100000 in
theorem seen_wt {p : Program} {l : Launch} {e : Env} {R : Room} {s : State} {m : MethodId} {args : Array Value} {below : List Frame} {meth : Method} {c : Code} {G : eG} {lo : Nat} {A : Nat → Prop} {Q : State → Prop} {cells slots : Nat} {fe B : Nat} {f sf : Nat → Int32} {ff : Nat → Nat → Int32} {old sz len : Nat} {tx : Nat → Int32} {hsn : Int32} (hx : p.tables.exec = Jvm.exec) (hb : c.code = cL_seen) (hml : c.maxLocals = 4) (hown : s.vm.findClass RL = some m.cls) (hts : ∀ w ∈ wsL_seen, w.before args s = true) (hE : EV G s) (hJ0 : JB lo s s.heap) (hAl : ∀ q, A q → lo ≤ q) (hR : PR B f sf ff old sz len tx hsn) (hB : B < 700000000) (hRf : 5 ≤ R.frames) (hRl : 200 ≤ R.locals) (hRc : cells ≤ R.cells) (hRs : slots ≤ R.slots) (b j : Nat) (hb2 : b < 2) (hj : j < 2147483648) {WC : va_W} {H : Heap} {locs : List Loc} {ls : Array Slot} {rest : List Value} (hX : XS G fe f sf ff old sz len tx hsn WC) (hP : va_P G.1 vwCl (WC ++ []) H) (hD : va_D A (WC ++ [])) (hS : va_S A s.heap H locs) (hJ : JB lo s H) (hz : ls.size = 4) (hcat : (rest.map fun v => v.category).sum ≤ 8) (kk : ∀ (WC : va_W) (H : Heap) (locs : List Loc), XS G fe f sf ff old sz len tx hsn WC → va_P G.1 vwCl (WC ++ []) H → va_D A (WC ++ []) → va_S A s.heap H locs → JB lo s H → W p l e R s m args below meth c H locs cells slots Q (F0 m 118 ls (.int (fWt f b j) :: rest))) : W p l e R s m args below meth c H locs cells slots Q (F0 m 115 ls (.int (nI j) :: .int (nI b) :: .ref fe :: rest)) := by
  by_cases hjq : j < nn f (57 + 11 * b)
  · refine cx0 (st1 := .int (f (((57 + (11 * b)) + 1) + j)) :: rest) (va_runV (As := [.int (nI b), .int (nI j)]) (rest := rest) ⟨hx, hb, hml, hown, hts⟩ (CX_waiting_in l G hX hR hB b j hb2 hj hjq) (cwV 2 hts gL_seen_X5_waiting rfl rfl rfl (by decide +kernel) ⟨Nat.le_trans (Nat.le_of_ble_eq_true rfl) hRf, Nat.le_trans (Nat.le_of_ble_eq_true rfl) hRl⟩) (PJ.preV hE hJ.jx (xs_recv hE.1 hX (P_pre hP)) ⟨P_pre hP, D_tr (D_pre hD)⟩) rfl rfl hz rfl (by show 2 * 0 + _ ≤ 8; omega) dL_seen_115 ⟨hRc, hRs⟩) hP hD hS hJ0 hAl rfl (fun WC H locs hX hP hD hS hJ => ?_)
    refine tI (y := fWt f b j) (if_pos hjq).symm ?_
    exact kk WC H locs hX hP hD hS hJ
  · refine cx0 (st1 := .int ((-1)) :: rest) (va_runV (As := [.int (nI b), .int (nI j)]) (rest := rest) ⟨hx, hb, hml, hown, hts⟩ (CX_waiting_out l G hX hR hB b j hb2 hj (by omega)) (cwV 2 hts gL_seen_X5_waiting rfl rfl rfl (by decide +kernel) ⟨Nat.le_trans (Nat.le_of_ble_eq_true rfl) hRf, Nat.le_trans (Nat.le_of_ble_eq_true rfl) hRl⟩) (PJ.preV hE hJ.jx (xs_recv hE.1 hX (P_pre hP)) ⟨P_pre hP, D_tr (D_pre hD)⟩) rfl rfl hz rfl (by show 2 * 0 + _ ≤ 8; omega) dL_seen_115 ⟨hRc, hRs⟩) hP hD hS hJ0 hAl rfl (fun WC H locs hX hP hD hS hJ => ?_)
    refine tI (y := fWt f b j) (if_neg hjq).symm ?_
    exact kk WC H locs hX hP hD hS hJ
set_option maxHeartbeats 4000000 in
set_option maxRecDepth 100000 in
theorem seen_dk {p : Program} {l : Launch} {e : Env} {R : Room} {s : State} {m : MethodId} {args : Array Value} {below : List Frame} {meth : Method} {c : Code} {G : eG} {lo : Nat} {A : Nat → Prop} {Q : State → Prop} {cells slots : Nat} {fe B : Nat} {f sf : Nat → Int32} {ff : Nat → Nat → Int32} {old sz len : Nat} {tx : Nat → Int32} {hsn : Int32} (hx : p.tables.exec = Jvm.exec) (hb : c.code = cL_seen) (hml : c.maxLocals = 4) (hown : s.vm.findClass RL = some m.cls) (hts : ∀ w ∈ wsL_seen, w.before args s = true) (hE : EV G s) (hJ0 : JB lo s s.heap) (hAl : ∀ q, A q → lo ≤ q) (hR : PR B f sf ff old sz len tx hsn) (hB : B < 700000000) (hRf : 5 ≤ R.frames) (hRl : 200 ≤ R.locals) (hRc : cells ≤ R.cells) (hRs : slots ≤ R.slots) (b j x : Nat) (hb2 : b < 2) (hj : j < 2147483648) (hw2 : x < 2) {WC : va_W} {H : Heap} {locs : List Loc} {ls : Array Slot} {rest : List Value} (hX : XS G fe f sf ff old sz len tx hsn WC) (hP : va_P G.1 vwCl (WC ++ []) H) (hD : va_D A (WC ++ [])) (hS : va_S A s.heap H locs) (hJ : JB lo s H) (hz : ls.size = 4) (hcat : (rest.map fun v => v.category).sum ≤ 8) (kk : ∀ (WC : va_W) (H : Heap) (locs : List Loc), XS G fe f sf ff old sz len tx hsn WC → va_P G.1 vwCl (WC ++ []) H → va_D A (WC ++ []) → va_S A s.heap H locs → JB lo s H → W p l e R s m args below meth c H locs cells slots Q (F0 m 138 ls (.int (fDk f b j x) :: rest))) : W p l e R s m args below meth c H locs cells slots Q (F0 m 135 ls (.int (nI x) :: .int (nI j) :: .int (nI b) :: .ref fe :: rest)) := by
  by_cases hjq : j < nn f (79 + 9 * b)
  · refine cx0 (st1 := .int (f ((((79 + (9 * b)) + 1) + (2 * j)) + x)) :: rest) (va_runV (As := [.int (nI b), .int (nI j), .int (nI x)]) (rest := rest) ⟨hx, hb, hml, hown, hts⟩ (CX_deck_in l G hX hR hB b j hb2 hj x hw2 hjq) (cwV 3 hts gL_seen_X5_deck rfl rfl rfl (by decide +kernel) ⟨Nat.le_trans (Nat.le_of_ble_eq_true rfl) hRf, Nat.le_trans (Nat.le_of_ble_eq_true rfl) hRl⟩) (PJ.preV hE hJ.jx (xs_recv hE.1 hX (P_pre hP)) ⟨P_pre hP, D_tr (D_pre hD)⟩) rfl rfl hz rfl (by show 2 * 0 + _ ≤ 8; omega) dL_seen_135 ⟨hRc, hRs⟩) hP hD hS hJ0 hAl rfl (fun WC H locs hX hP hD hS hJ => ?_)
    refine tI (y := fDk f b j x) (if_pos hjq).symm ?_
    exact kk WC H locs hX hP hD hS hJ
  · refine cx0 (st1 := .int ((-1)) :: rest) (va_runV (As := [.int (nI b), .int (nI j), .int (nI x)]) (rest := rest) ⟨hx, hb, hml, hown, hts⟩ (CX_deck_out l G hX hR hB b j hb2 hj x hw2 (by omega)) (cwV 3 hts gL_seen_X5_deck rfl rfl rfl (by decide +kernel) ⟨Nat.le_trans (Nat.le_of_ble_eq_true rfl) hRf, Nat.le_trans (Nat.le_of_ble_eq_true rfl) hRl⟩) (PJ.preV hE hJ.jx (xs_recv hE.1 hX (P_pre hP)) ⟨P_pre hP, D_tr (D_pre hD)⟩) rfl rfl hz rfl (by show 2 * 0 + _ ≤ 8; omega) dL_seen_135 ⟨hRc, hRs⟩) hP hD hS hJ0 hAl rfl (fun WC H locs hX hP hD hS hJ => ?_)
    refine tI (y := fDk f b j x) (if_neg hjq).symm ?_
    exact kk WC H locs hX hP hD hS hJ
set_option maxHeartbeats 4000000 in
set_option maxRecDepth 100000 in
theorem seen_A {p : Program} {l : Launch} {e : Env} {R : Room} {s : State} {m : MethodId} {args : Array Value} {below : List Frame} {meth : Method} {c : Code} {G : eG} {lo : Nat} {A : Nat → Prop} {Q : State → Prop} {cells slots : Nat} {fe B : Nat} {f sf : Nat → Int32} {ff : Nat → Nat → Int32} {old sz len : Nat} {tx : Nat → Int32} {hsn : Int32} (hx : p.tables.exec = Jvm.exec) (hb : c.code = cL_seen) (hml : c.maxLocals = 4) (hown : s.vm.findClass RL = some m.cls) (hts : ∀ w ∈ wsL_seen, w.before args s = true) (hE : EV G s) (hJ0 : JB lo s s.heap) (hAl : ∀ q, A q → lo ≤ q) (hR : PR B f sf ff old sz len tx hsn) (hB : B < 700000000) (hRf : 5 ≤ R.frames) (hRl : 200 ≤ R.locals) (hRc : cells ≤ R.cells) (hRs : slots ≤ R.slots) (kk : ∀ (WC : va_W) (H : Heap) (locs : List Loc) (ls : Array Slot), XS G fe f sf ff old sz len tx hsn WC → va_P G.1 vwCl (WC ++ []) H → va_D A (WC ++ []) → va_S A s.heap H locs → JB lo s H → lv_has ls 4 [(3, .int (nI 13)), (1, .long (sA f 13)), (0, .ref fe)] → W p l e R s m args below meth c H locs cells slots Q (F0 m 31 ls [])) : ∀ (n k : Nat), k + n = 13 → ∀ (WC : va_W) (H : Heap) (locs : List Loc) (ls : Array Slot), XS G fe f sf ff old sz len tx hsn WC → va_P G.1 vwCl (WC ++ []) H → va_D A (WC ++ []) → va_S A s.heap H locs → JB lo s H → lv_has ls 4 [(3, .int (nI k)), (1, .long (sA f k)), (0, .ref fe)] → W p l e R s m args below meth c H locs cells slots Q (F0 m 6 ls []) := by
  intro n
  induction n with
  | zero =>
    intro k hk WC H locs ls hX hP hD hS hJ hl
    obtain rfl : k = 13 := by omega
    refine lv_iload_n hx hb dL_seen_6 rfl (lv_at hl 0 rfl) ?_
    refine lv_bipush (v := nI 13) hx hb dL_seen_7 (by decide +kernel) ?_
    refine lv_icmp_ge (tgt := 31) hx hb dL_seen_9 (by decide) (fun _ => ?_) (fun h => absurd h (by decide +kernel))
    exact kk WC H locs ls hX hP hD hS hJ hl
  | succ n ih =>
    intro k hk WC H locs ls hX hP hD hS hJ hl
    refine lv_iload_n hx hb dL_seen_6 rfl (lv_at hl 0 rfl) ?_
    refine lv_bipush (v := nI 13) hx hb dL_seen_7 (by decide +kernel) ?_
    refine icmp_geN (tgt := 31) hx hb (by omega) (by omega) dL_seen_9 (by decide) (fun h => absurd h (by omega)) (fun _ => ?_)
    refine lv_ldc2 (v := 31) hx hb hown (hts (.constantLong RL 83 (31)) (by decide +kernel)) dL_seen_12 ?_
    refine lv_lload_n hx hb dL_seen_15 rfl (lv_at hl 1 rfl) ?_
    refine lv_lmul hx hb dL_seen_16 ?_
    refine lv_aload_n hx hb dL_seen_17 rfl (lv_at hl 2 rfl) ?_
    refine lv_iload_n hx hb dL_seen_18 rfl (lv_at hl 0 rfl) ?_
    refine cx0 (st1 := [.int (fCnt f sz k), .long (31 * (sA f k))]) (va_runV (As := [.int (nI k)]) (rest := [.long (31 * (sA f k))]) ⟨hx, hb, hml, hown, hts⟩ (CX_count_ok l G hX hR hB k (by omega)) (cwV 1 hts gL_seen_X5_count rfl rfl rfl (by decide +kernel) ⟨Nat.le_trans (Nat.le_of_ble_eq_true rfl) hRf, Nat.le_trans (Nat.le_of_ble_eq_true rfl) hRl⟩) (PJ.preV hE hJ.jx (xs_recv hE.1 hX (P_pre hP)) ⟨P_pre hP, D_tr (D_pre hD)⟩) rfl rfl hl.1 rfl (lv_room (Nat.le_of_ble_eq_true rfl)) dL_seen_19 ⟨hRc, hRs⟩) hP hD hS hJ0 hAl rfl (fun WC H locs hX hP hD hS hJ => ?_)
    refine tI (y := fCnt f 0 k) (cnt_sz (by omega)) ?_
    refine lv_i2l (v := (fCnt f 0 k).toInt64) hx hb dL_seen_22 rfl ?_
    refine lv_ladd hx hb dL_seen_23 ?_
    refine lv_lstore_n (lv' := [(1, .long ((31 * (sA f k)) + ((fCnt f 0 k).toInt64))), (3, .int (nI k)), (0, .ref fe)]) hx hb dL_seen_24 rfl hl (by decide) rfl (fun ls hl => ?_)
    refine lv_iinc (v := nI (k + 1)) (lv' := [(3, .int (nI (k + 1))), (1, .long ((31 * (sA f k)) + ((fCnt f 0 k).toInt64))), (0, .ref fe)]) hx hb dL_seen_25 hl (k := 1) rfl (nI_inc1 _) (by decide) rfl (fun ls hl => ?_)
    refine lv_goto (tgt := 6) hx hb dL_seen_28 (by decide) ?_
    exact ih (k + 1) (by omega) WC H locs ls hX hP hD hS hJ hl
set_option maxHeartbeats 4000000 in
set_option maxRecDepth 100000 in
theorem seen_B {p : Program} {l : Launch} {e : Env} {R : Room} {s : State} {m : MethodId} {args : Array Value} {below : List Frame} {meth : Method} {c : Code} {G : eG} {lo : Nat} {A : Nat → Prop} {Q : State → Prop} {cells slots : Nat} {fe B : Nat} {f sf : Nat → Int32} {ff : Nat → Nat → Int32} {old sz len : Nat} {tx : Nat → Int32} {hsn : Int32} (hx : p.tables.exec = Jvm.exec) (hb : c.code = cL_seen) (hml : c.maxLocals = 4) (hown : s.vm.findClass RL = some m.cls) (hts : ∀ w ∈ wsL_seen, w.before args s = true) (hE : EV G s) (hJ0 : JB lo s s.heap) (hAl : ∀ q, A q → lo ≤ q) (hR : PR B f sf ff old sz len tx hsn) (hB : B < 700000000) (hRf : 5 ≤ R.frames) (hRl : 200 ≤ R.locals) (hRc : cells ≤ R.cells) (hRs : slots ≤ R.slots) (kk : ∀ (WC : va_W) (H : Heap) (locs : List Loc) (ls : Array Slot), XS G fe f sf ff old sz len tx hsn WC → va_P G.1 vwCl (WC ++ []) H → va_D A (WC ++ []) → va_S A s.heap H locs → JB lo s H → lv_has ls 4 [(3, .int (nI 60)), (1, .long (sB f 60)), (0, .ref fe)] → W p l e R s m args below meth c H locs cells slots Q (F0 m 63 ls [])) : ∀ (n k : Nat), k + n = 60 → ∀ (WC : va_W) (H : Heap) (locs : List Loc) (ls : Array Slot), XS G fe f sf ff old sz len tx hsn WC → va_P G.1 vwCl (WC ++ []) H → va_D A (WC ++ []) → va_S A s.heap H locs → JB lo s H → lv_has ls 4 [(3, .int (nI k)), (1, .long (sB f k)), (0, .ref fe)] → W p l e R s m args below meth c H locs cells slots Q (F0 m 33 ls []) := by
  intro n
  induction n with
  | zero =>
    intro k hk WC H locs ls hX hP hD hS hJ hl
    obtain rfl : k = 60 := by omega
    refine lv_iload_n hx hb dL_seen_33 rfl (lv_at hl 0 rfl) ?_
    refine lv_bipush (v := nI 60) hx hb dL_seen_34 (by decide +kernel) ?_
    refine lv_icmp_ge (tgt := 63) hx hb dL_seen_36 (by decide) (fun _ => ?_) (fun h => absurd h (by decide +kernel))
    exact kk WC H locs ls hX hP hD hS hJ hl
  | succ n ih =>
    intro k hk WC H locs ls hX hP hD hS hJ hl
    refine lv_iload_n hx hb dL_seen_33 rfl (lv_at hl 0 rfl) ?_
    refine lv_bipush (v := nI 60) hx hb dL_seen_34 (by decide +kernel) ?_
    refine icmp_geN (tgt := 63) hx hb (by omega) (by omega) dL_seen_36 (by decide) (fun h => absurd h (by omega)) (fun _ => ?_)
    refine lv_ldc2 (v := 31) hx hb hown (hts (.constantLong RL 83 (31)) (by decide +kernel)) dL_seen_39 ?_
    refine lv_lload_n hx hb dL_seen_42 rfl (lv_at hl 1 rfl) ?_
    refine lv_lmul hx hb dL_seen_43 ?_
    refine lv_aload_n hx hb dL_seen_44 rfl (lv_at hl 2 rfl) ?_
    refine lv_iload_n hx hb dL_seen_45 rfl (lv_at hl 0 rfl) ?_
    refine lv_iconst (v := nI 3) hx hb dL_seen_46 (by decide +kernel) ?_
    refine idivN hx hb (by omega) (by decide) (by decide) dL_seen_47 ?_
    refine lv_iload_n hx hb dL_seen_48 rfl (lv_at hl 0 rfl) ?_
    refine lv_iconst (v := nI 3) hx hb dL_seen_49 (by decide +kernel) ?_
    refine iremN hx hb (by omega) (by decide) (by decide) dL_seen_50 ?_
    refine cx0 (st1 := [.int (fOf f (k / 3) (k % 3)), .long (31 * (sB f k))]) (va_runV (As := [.int (nI (k / 3)), .int (nI (k % 3))]) (rest := [.long (31 * (sB f k))]) ⟨hx, hb, hml, hown, hts⟩ (CX_section_ok l G hX hR hB (k / 3) (k % 3) (by omega) (by omega)) (cwV 2 hts gL_seen_X5_section rfl rfl rfl (by decide +kernel) ⟨Nat.le_trans (Nat.le_of_ble_eq_true rfl) hRf, Nat.le_trans (Nat.le_of_ble_eq_true rfl) hRl⟩) (PJ.preV hE hJ.jx (xs_recv hE.1 hX (P_pre hP)) ⟨P_pre hP, D_tr (D_pre hD)⟩) rfl rfl hl.1 rfl (lv_room (Nat.le_of_ble_eq_true rfl)) dL_seen_51 ⟨hRc, hRs⟩) hP hD hS hJ0 hAl rfl (fun WC H locs hX hP hD hS hJ => ?_)
    refine lv_i2l (v := (fOf f (k / 3) (k % 3)).toInt64) hx hb dL_seen_54 rfl ?_
    refine lv_ladd hx hb dL_seen_55 ?_
    refine lv_lstore_n (lv' := [(1, .long ((31 * (sB f k)) + ((fOf f (k / 3) (k % 3)).toInt64))), (3, .int (nI k)), (0, .ref fe)]) hx hb dL_seen_56 rfl hl (by decide) rfl (fun ls hl => ?_)
    refine lv_iinc (v := nI (k + 1)) (lv' := [(3, .int (nI (k + 1))), (1, .long ((31 * (sB f k)) + ((fOf f (k / 3) (k % 3)).toInt64))), (0, .ref fe)]) hx hb dL_seen_57 hl (k := 1) rfl (nI_inc1 _) (by decide) rfl (fun ls hl => ?_)
    refine lv_goto (tgt := 33) hx hb dL_seen_60 (by decide) ?_
    exact ih (k + 1) (by omega) WC H locs ls hX hP hD hS hJ hl
set_option maxHeartbeats 4000000 in
set_option maxRecDepth 100000 in
theorem seen_C {p : Program} {l : Launch} {e : Env} {R : Room} {s : State} {m : MethodId} {args : Array Value} {below : List Frame} {meth : Method} {c : Code} {G : eG} {lo : Nat} {A : Nat → Prop} {Q : State → Prop} {cells slots : Nat} {fe B : Nat} {f sf : Nat → Int32} {ff : Nat → Nat → Int32} {old sz len : Nat} {tx : Nat → Int32} {hsn : Int32} (hx : p.tables.exec = Jvm.exec) (hb : c.code = cL_seen) (hml : c.maxLocals = 4) (hown : s.vm.findClass RL = some m.cls) (hts : ∀ w ∈ wsL_seen, w.before args s = true) (hE : EV G s) (hJ0 : JB lo s s.heap) (hAl : ∀ q, A q → lo ≤ q) (hR : PR B f sf ff old sz len tx hsn) (hB : B < 700000000) (hRf : 5 ≤ R.frames) (hRl : 200 ≤ R.locals) (hRc : cells ≤ R.cells) (hRs : slots ≤ R.slots) (kk : ∀ (WC : va_W) (H : Heap) (locs : List Loc) (ls : Array Slot), XS G fe f sf ff old sz len tx hsn WC → va_P G.1 vwCl (WC ++ []) H → va_D A (WC ++ []) → va_S A s.heap H locs → JB lo s H → lv_has ls 4 [(3, .int (nI 24)), (1, .long (sC f 24)), (0, .ref fe)] → W p l e R s m args below meth c H locs cells slots Q (F0 m 90 ls [])) : ∀ (n k : Nat), k + n = 24 → ∀ (WC : va_W) (H : Heap) (locs : List Loc) (ls : Array Slot), XS G fe f sf ff old sz len tx hsn WC → va_P G.1 vwCl (WC ++ []) H → va_D A (WC ++ []) → va_S A s.heap H locs → JB lo s H → lv_has ls 4 [(3, .int (nI k)), (1, .long (sC f k)), (0, .ref fe)] → W p l e R s m args below meth c H locs cells slots Q (F0 m 65 ls []) := by
  intro n
  induction n with
  | zero =>
    intro k hk WC H locs ls hX hP hD hS hJ hl
    obtain rfl : k = 24 := by omega
    refine lv_iload_n hx hb dL_seen_65 rfl (lv_at hl 0 rfl) ?_
    refine lv_bipush (v := nI 24) hx hb dL_seen_66 (by decide +kernel) ?_
    refine lv_icmp_ge (tgt := 90) hx hb dL_seen_68 (by decide) (fun _ => ?_) (fun h => absurd h (by decide +kernel))
    exact kk WC H locs ls hX hP hD hS hJ hl
  | succ n ih =>
    intro k hk WC H locs ls hX hP hD hS hJ hl
    refine lv_iload_n hx hb dL_seen_65 rfl (lv_at hl 0 rfl) ?_
    refine lv_bipush (v := nI 24) hx hb dL_seen_66 (by decide +kernel) ?_
    refine icmp_geN (tgt := 90) hx hb (by omega) (by omega) dL_seen_68 (by decide) (fun h => absurd h (by omega)) (fun _ => ?_)
    refine lv_ldc2 (v := 31) hx hb hown (hts (.constantLong RL 83 (31)) (by decide +kernel)) dL_seen_71 ?_
    refine lv_lload_n hx hb dL_seen_74 rfl (lv_at hl 1 rfl) ?_
    refine lv_lmul hx hb dL_seen_75 ?_
    refine lv_aload_n hx hb dL_seen_76 rfl (lv_at hl 2 rfl) ?_
    refine lv_iload_n hx hb dL_seen_77 rfl (lv_at hl 0 rfl) ?_
    refine cx0 (st1 := [.int (f (3 + k)), .long (31 * (sC f k))]) (va_runV (As := [.int (nI k)]) (rest := [.long (31 * (sC f k))]) ⟨hx, hb, hml, hown, hts⟩ (CX_currentOf_ok l G hX hR hB k (by omega)) (cwV 1 hts gL_seen_X5_currentOf rfl rfl rfl (by decide +kernel) ⟨Nat.le_trans (Nat.le_of_ble_eq_true rfl) hRf, Nat.le_trans (Nat.le_of_ble_eq_true rfl) hRl⟩) (PJ.preV hE hJ.jx (xs_recv hE.1 hX (P_pre hP)) ⟨P_pre hP, D_tr (D_pre hD)⟩) rfl rfl hl.1 rfl (lv_room (Nat.le_of_ble_eq_true rfl)) dL_seen_78 ⟨hRc, hRs⟩) hP hD hS hJ0 hAl rfl (fun WC H locs hX hP hD hS hJ => ?_)
    refine lv_i2l (v := (f (3 + k)).toInt64) hx hb dL_seen_81 rfl ?_
    refine lv_ladd hx hb dL_seen_82 ?_
    refine lv_lstore_n (lv' := [(1, .long ((31 * (sC f k)) + ((f (3 + k)).toInt64))), (3, .int (nI k)), (0, .ref fe)]) hx hb dL_seen_83 rfl hl (by decide) rfl (fun ls hl => ?_)
    refine lv_iinc (v := nI (k + 1)) (lv' := [(3, .int (nI (k + 1))), (1, .long ((31 * (sC f k)) + ((f (3 + k)).toInt64))), (0, .ref fe)]) hx hb dL_seen_84 hl (k := 1) rfl (nI_inc1 _) (by decide) rfl (fun ls hl => ?_)
    refine lv_goto (tgt := 65) hx hb dL_seen_87 (by decide) ?_
    exact ih (k + 1) (by omega) WC H locs ls hX hP hD hS hJ hl
set_option maxHeartbeats 4000000 in
set_option maxRecDepth 100000 in
theorem seen_D {p : Program} {l : Launch} {e : Env} {R : Room} {s : State} {m : MethodId} {args : Array Value} {below : List Frame} {meth : Method} {c : Code} {G : eG} {lo : Nat} {A : Nat → Prop} {Q : State → Prop} {cells slots : Nat} {fe B : Nat} {f sf : Nat → Int32} {ff : Nat → Nat → Int32} {old sz len : Nat} {tx : Nat → Int32} {hsn : Int32} (hx : p.tables.exec = Jvm.exec) (hb : c.code = cL_seen) (hml : c.maxLocals = 4) (hown : s.vm.findClass RL = some m.cls) (hts : ∀ w ∈ wsL_seen, w.before args s = true) (hE : EV G s) (hJ0 : JB lo s s.heap) (hAl : ∀ q, A q → lo ≤ q) (hR : PR B f sf ff old sz len tx hsn) (hB : B < 700000000) (hRf : 5 ≤ R.frames) (hRl : 200 ≤ R.locals) (hRc : cells ≤ R.cells) (hRs : slots ≤ R.slots) (kk : ∀ (WC : va_W) (H : Heap) (locs : List Loc) (ls : Array Slot), XS G fe f sf ff old sz len tx hsn WC → va_P G.1 vwCl (WC ++ []) H → va_D A (WC ++ []) → va_S A s.heap H locs → JB lo s H → lv_has ls 4 [(3, .int (nI 20)), (1, .long (sD f 20)), (0, .ref fe)] → W p l e R s m args below meth c H locs cells slots Q (F0 m 147 ls [])) : ∀ (n k : Nat), k + n = 20 → ∀ (WC : va_W) (H : Heap) (locs : List Loc) (ls : Array Slot), XS G fe f sf ff old sz len tx hsn WC → va_P G.1 vwCl (WC ++ []) H → va_D A (WC ++ []) → va_S A s.heap H locs → JB lo s H → lv_has ls 4 [(3, .int (nI k)), (1, .long (sD f k)), (0, .ref fe)] → W p l e R s m args below meth c H locs cells slots Q (F0 m 92 ls []) := by
  intro n
  induction n with
  | zero =>
    intro k hk WC H locs ls hX hP hD hS hJ hl
    obtain rfl : k = 20 := by omega
    refine lv_iload_n hx hb dL_seen_92 rfl (lv_at hl 0 rfl) ?_
    refine lv_bipush (v := nI 20) hx hb dL_seen_93 (by decide +kernel) ?_
    refine lv_icmp_ge (tgt := 147) hx hb dL_seen_95 (by decide) (fun _ => ?_) (fun h => absurd h (by decide +kernel))
    exact kk WC H locs ls hX hP hD hS hJ hl
  | succ n ih =>
    intro k hk WC H locs ls hX hP hD hS hJ hl
    refine lv_iload_n hx hb dL_seen_92 rfl (lv_at hl 0 rfl) ?_
    refine lv_bipush (v := nI 20) hx hb dL_seen_93 (by decide +kernel) ?_
    refine icmp_geN (tgt := 147) hx hb (by omega) (by omega) dL_seen_95 (by decide) (fun h => absurd h (by omega)) (fun _ => ?_)
    refine lv_ldc2 (v := 31) hx hb hown (hts (.constantLong RL 83 (31)) (by decide +kernel)) dL_seen_98 ?_
    refine lv_ldc2 (v := 31) hx hb hown (hts (.constantLong RL 83 (31)) (by decide +kernel)) dL_seen_101 ?_
    refine lv_lload_n hx hb dL_seen_104 rfl (lv_at hl 1 rfl) ?_
    refine lv_lmul hx hb dL_seen_105 ?_
    refine lv_aload_n hx hb dL_seen_106 rfl (lv_at hl 2 rfl) ?_
    refine lv_iload_n hx hb dL_seen_107 rfl (lv_at hl 0 rfl) ?_
    refine lv_bipush (v := nI 10) hx hb dL_seen_108 (by decide +kernel) ?_
    refine idivN hx hb (by omega) (by decide) (by decide) dL_seen_110 ?_
    refine lv_iload_n hx hb dL_seen_111 rfl (lv_at hl 0 rfl) ?_
    refine lv_bipush (v := nI 10) hx hb dL_seen_112 (by decide +kernel) ?_
    refine iremN hx hb (by omega) (by decide) (by decide) dL_seen_114 ?_
    refine seen_wt hx hb hml hown hts hE hJ0 hAl hR hB hRf hRl hRc hRs (k / 10) (k % 10) (by omega) (by omega) hX hP hD hS hJ hl.1 (Nat.le_of_ble_eq_true rfl) (fun WC H locs hX hP hD hS hJ => ?_)
    refine lv_i2l (v := (fWt f (k / 10) (k % 10)).toInt64) hx hb dL_seen_118 rfl ?_
    refine lv_ladd hx hb dL_seen_119 ?_
    refine lv_lmul hx hb dL_seen_120 ?_
    refine lv_aload_n hx hb dL_seen_121 rfl (lv_at hl 2 rfl) ?_
    refine lv_iload_n hx hb dL_seen_122 rfl (lv_at hl 0 rfl) ?_
    refine lv_bipush (v := nI 10) hx hb dL_seen_123 (by decide +kernel) ?_
    refine idivN hx hb (by omega) (by decide) (by decide) dL_seen_125 ?_
    refine lv_iload_n hx hb dL_seen_126 rfl (lv_at hl 0 rfl) ?_
    refine lv_bipush (v := nI 10) hx hb dL_seen_127 (by decide +kernel) ?_
    refine iremN hx hb (by omega) (by decide) (by decide) dL_seen_129 ?_
    refine lv_iconst (v := nI 2) hx hb dL_seen_130 (by decide +kernel) ?_
    refine idivN hx hb (by omega) (by decide) (by decide) dL_seen_131 ?_
    refine lv_iload_n hx hb dL_seen_132 rfl (lv_at hl 0 rfl) ?_
    refine lv_iconst (v := nI 2) hx hb dL_seen_133 (by decide +kernel) ?_
    refine iremN hx hb (by omega) (by decide) (by decide) dL_seen_134 ?_
    refine seen_dk hx hb hml hown hts hE hJ0 hAl hR hB hRf hRl hRc hRs (k / 10) (k % 10 / 2) (k % 2) (by omega) (by omega) (by omega) hX hP hD hS hJ hl.1 (Nat.le_of_ble_eq_true rfl) (fun WC H locs hX hP hD hS hJ => ?_)
    refine lv_i2l (v := (fDk f (k / 10) (k % 10 / 2) (k % 2)).toInt64) hx hb dL_seen_138 rfl ?_
    refine lv_ladd hx hb dL_seen_139 ?_
    refine lv_lstore_n (lv' := [(1, .long ((31 * ((31 * (sD f k)) + ((fWt f (k / 10) (k % 10)).toInt64))) + ((fDk f (k / 10) (k % 10 / 2) (k % 2)).toInt64))), (3, .int (nI k)), (0, .ref fe)]) hx hb dL_seen_140 rfl hl (by decide) rfl (fun ls hl => ?_)
    refine lv_iinc (v := nI (k + 1)) (lv' := [(3, .int (nI (k + 1))), (1, .long ((31 * ((31 * (sD f k)) + ((fWt f (k / 10) (k % 10)).toInt64))) + ((fDk f (k / 10) (k % 10 / 2) (k % 2)).toInt64))), (0, .ref fe)]) hx hb dL_seen_141 hl (k := 1) rfl (nI_inc1 _) (by decide) rfl (fun ls hl => ?_)
    refine lv_goto (tgt := 92) hx hb dL_seen_144 (by decide) ?_
    exact ih (k + 1) (by omega) WC H locs ls hX hP hD hS hJ hl
set_option maxHeartbeats 4000000 in
set_option maxRecDepth 100000 in
theorem seen_E {p : Program} {l : Launch} {e : Env} {R : Room} {s : State} {m : MethodId} {args : Array Value} {below : List Frame} {meth : Method} {c : Code} {G : eG} {lo : Nat} {A : Nat → Prop} {Q : State → Prop} {cells slots : Nat} {fe B : Nat} {f sf : Nat → Int32} {ff : Nat → Nat → Int32} {old sz len : Nat} {tx : Nat → Int32} {hsn : Int32} (hx : p.tables.exec = Jvm.exec) (hb : c.code = cL_seen) (hml : c.maxLocals = 4) (hown : s.vm.findClass RL = some m.cls) (hts : ∀ w ∈ wsL_seen, w.before args s = true) (hE : EV G s) (hJ0 : JB lo s s.heap) (hAl : ∀ q, A q → lo ≤ q) (hR : PR B f sf ff old sz len tx hsn) (hB : B < 700000000) (hRf : 5 ≤ R.frames) (hRl : 200 ≤ R.locals) (hRc : cells ≤ R.cells) (hRs : slots ≤ R.slots) (kk : ∀ (WC : va_W) (H : Heap) (locs : List Loc) (ls : Array Slot), XS G fe f sf ff old sz len tx hsn WC → va_P G.1 vwCl (WC ++ []) H → va_D A (WC ++ []) → va_S A s.heap H locs → JB lo s H → lv_has ls 4 [(3, .int (nI 3)), (1, .long (sE f 3)), (0, .ref fe)] → W p l e R s m args below meth c H locs cells slots Q (F0 m 173 ls [])) : ∀ (n k : Nat), k + n = 3 → ∀ (WC : va_W) (H : Heap) (locs : List Loc) (ls : Array Slot), XS G fe f sf ff old sz len tx hsn WC → va_P G.1 vwCl (WC ++ []) H → va_D A (WC ++ []) → va_S A s.heap H locs → JB lo s H → lv_has ls 4 [(3, .int (nI k)), (1, .long (sE f k)), (0, .ref fe)] → W p l e R s m args below meth c H locs cells slots Q (F0 m 149 ls []) := by
  intro n
  induction n with
  | zero =>
    intro k hk WC H locs ls hX hP hD hS hJ hl
    obtain rfl : k = 3 := by omega
    refine lv_iload_n hx hb dL_seen_149 rfl (lv_at hl 0 rfl) ?_
    refine lv_iconst (v := nI 3) hx hb dL_seen_150 (by decide +kernel) ?_
    refine lv_icmp_ge (tgt := 173) hx hb dL_seen_151 (by decide) (fun _ => ?_) (fun h => absurd h (by decide +kernel))
    exact kk WC H locs ls hX hP hD hS hJ hl
  | succ n ih =>
    intro k hk WC H locs ls hX hP hD hS hJ hl
    refine lv_iload_n hx hb dL_seen_149 rfl (lv_at hl 0 rfl) ?_
    refine lv_iconst (v := nI 3) hx hb dL_seen_150 (by decide +kernel) ?_
    refine icmp_geN (tgt := 173) hx hb (by omega) (by omega) dL_seen_151 (by decide) (fun h => absurd h (by omega)) (fun _ => ?_)
    refine lv_ldc2 (v := 31) hx hb hown (hts (.constantLong RL 83 (31)) (by decide +kernel)) dL_seen_154 ?_
    refine lv_lload_n hx hb dL_seen_157 rfl (lv_at hl 1 rfl) ?_
    refine lv_lmul hx hb dL_seen_158 ?_
    refine lv_aload_n hx hb dL_seen_159 rfl (lv_at hl 2 rfl) ?_
    refine lv_iload_n hx hb dL_seen_160 rfl (lv_at hl 0 rfl) ?_
    refine cx0 (st1 := [.int (f k), .long (31 * (sE f k))]) (va_runV (As := [.int (nI k)]) (rest := [.long (31 * (sE f k))]) ⟨hx, hb, hml, hown, hts⟩ (CX_setting_ok l G hX hR hB k (by omega)) (cwV 1 hts gL_seen_X5_setting rfl rfl rfl (by decide +kernel) ⟨Nat.le_trans (Nat.le_of_ble_eq_true rfl) hRf, Nat.le_trans (Nat.le_of_ble_eq_true rfl) hRl⟩) (PJ.preV hE hJ.jx (xs_recv hE.1 hX (P_pre hP)) ⟨P_pre hP, D_tr (D_pre hD)⟩) rfl rfl hl.1 rfl (lv_room (Nat.le_of_ble_eq_true rfl)) dL_seen_161 ⟨hRc, hRs⟩) hP hD hS hJ0 hAl rfl (fun WC H locs hX hP hD hS hJ => ?_)
    refine lv_i2l (v := (f k).toInt64) hx hb dL_seen_164 rfl ?_
    refine lv_ladd hx hb dL_seen_165 ?_
    refine lv_lstore_n (lv' := [(1, .long ((31 * (sE f k)) + ((f k).toInt64))), (3, .int (nI k)), (0, .ref fe)]) hx hb dL_seen_166 rfl hl (by decide) rfl (fun ls hl => ?_)
    refine lv_iinc (v := nI (k + 1)) (lv' := [(3, .int (nI (k + 1))), (1, .long ((31 * (sE f k)) + ((f k).toInt64))), (0, .ref fe)]) hx hb dL_seen_167 hl (k := 1) rfl (nI_inc1 _) (by decide) rfl (fun ls hl => ?_)
    refine lv_goto (tgt := 149) hx hb dL_seen_170 (by decide) ?_
    exact ih (k + 1) (by omega) WC H locs ls hX hP hD hS hJ hl
set_option maxHeartbeats 4000000 in
set_option maxRecDepth 100000 in
theorem K_seen (l : Launch) (G : eG) {lo : Nat} {fe B : Nat} {f sf : Nat → Int32} {ff : Nat → Nat → Int32} {old sz len : Nat} {tx : Nat → Int32} {hsn : Int32} {WC : va_W} (hX : XS G fe f sf ff old sz len tx hsn WC) (hR : PR B f sf ff old sz len tx hsn) (hB : B < 700000000) : Met l yL_seen wsL_seen ({ frames := 5, cells := 0, slots := 0, locals := 200 }) (PK lo [.ref fe] G (fun H => va_P G.1 vwCl WC H ∧ va_D (AL lo) WC)) (MV (some (.long (seenF f))) (fun H => ∃ W', XS G fe f sf ff old sz len tx hsn W' ∧ va_P G.1 vwCl W' H ∧ va_D (inW WC) W') (inW WC)) 0 0 (inW WC) := by
  refine ofBK (cc := cL_seen) (maxL := 4) (ret := some .long) (by decide) rfl (Nat.le_of_ble_eq_true rfl) ?_
  intro p e s m below meth c hx hb hr hlocks hml hown hin hts hE hJ0 hI ls hl
  replace hown : s.vm.findClass RL = some m.cls := hown
  have hl : lv_has ls 4 [(0, .ref fe)] := hl
  obtain ⟨hP, hD0⟩ := hI
  have hAl : ∀ q, inW WC q → lo ≤ q := fun q h => inW_D hD0 q h
  have hD : va_D (inW WC) (WC ++ []) := by rw [List.append_nil]; exact D_self hD0
  obtain ⟨A, hAe⟩ : ∃ A, A = inW WC := ⟨_, rfl⟩
  rw [← hAe] at hD hAl
  have hS : va_S A s.heap s.heap [] := va_S.rf
  obtain ⟨H, hHe⟩ : ∃ H, H = s.heap := ⟨_, rfl⟩
  obtain ⟨locs, hle⟩ : ∃ q : List Loc, q = [] := ⟨_, rfl⟩
  rw [← hle] at hS ⊢
  have hP : va_P G.1 vwCl (WC ++ []) H := by rw [hHe, List.append_nil]; exact hP
  replace hS : va_S A s.heap H locs := by rw [hHe]; exact hS
  have hJ : JB lo s H := hJ0.S hAl hS
  refine tH hHe ?_
  have hRf : 5 ≤ ({ frames := 5, cells := 0, slots := 0, locals := 200 } : Room).frames := Nat.le_refl _
  have hRl : 200 ≤ ({ frames := 5, cells := 0, slots := 0, locals := 200 } : Room).locals := Nat.le_refl _
  have hRc : 0 ≤ ({ frames := 5, cells := 0, slots := 0, locals := 200 } : Room).cells := Nat.le_refl _
  have hRs : 0 ≤ ({ frames := 5, cells := 0, slots := 0, locals := 200 } : Room).slots := Nat.le_refl _
  refine lv_ldc2 (v := 127) hx hb hown (hts (.constantLong RL 81 (127)) (by decide +kernel)) dL_seen_0 ?_
  refine lv_lstore_n (lv' := [(1, .long 127), (0, .ref fe)]) hx hb dL_seen_3 rfl hl (by decide) rfl (fun ls hl => ?_)
  refine lv_iconst (v := nI 0) hx hb dL_seen_4 (by decide +kernel) ?_
  refine lv_istore_n (lv' := [(3, .int (nI 0)), (1, .long 127), (0, .ref fe)]) hx hb dL_seen_5 rfl hl (by decide) rfl (fun ls hl => ?_)
  refine seen_A hx hb hml hown hts hE hJ0 hAl hR hB hRf hRl hRc hRs (fun WC H locs ls hX hP hD hS hJ hl => ?_) 13 0 rfl _ _ _ _ hX hP hD hS hJ hl
  replace hl : lv_has ls 4 [(1, .long (sA f 13)), (0, .ref fe)] := lv_sub hl [1, 2] rfl
  refine lv_iconst (v := nI 0) hx hb dL_seen_31 (by decide +kernel) ?_
  refine lv_istore_n (lv' := [(3, .int (nI 0)), (1, .long (sA f 13)), (0, .ref fe)]) hx hb dL_seen_32 rfl hl (by decide) rfl (fun ls hl => ?_)
  refine seen_B hx hb hml hown hts hE hJ0 hAl hR hB hRf hRl hRc hRs (fun WC H locs ls hX hP hD hS hJ hl => ?_) 60 0 rfl _ _ _ _ hX hP hD hS hJ hl
  replace hl : lv_has ls 4 [(1, .long (sB f 60)), (0, .ref fe)] := lv_sub hl [1, 2] rfl
  refine lv_iconst (v := nI 0) hx hb dL_seen_63 (by decide +kernel) ?_
  refine lv_istore_n (lv' := [(3, .int (nI 0)), (1, .long (sB f 60)), (0, .ref fe)]) hx hb dL_seen_64 rfl hl (by decide) rfl (fun ls hl => ?_)
  refine seen_C hx hb hml hown hts hE hJ0 hAl hR hB hRf hRl hRc hRs (fun WC H locs ls hX hP hD hS hJ hl => ?_) 24 0 rfl _ _ _ _ hX hP hD hS hJ hl
  replace hl : lv_has ls 4 [(1, .long (sC f 24)), (0, .ref fe)] := lv_sub hl [1, 2] rfl
  refine lv_iconst (v := nI 0) hx hb dL_seen_90 (by decide +kernel) ?_
  refine lv_istore_n (lv' := [(3, .int (nI 0)), (1, .long (sC f 24)), (0, .ref fe)]) hx hb dL_seen_91 rfl hl (by decide) rfl (fun ls hl => ?_)
  refine seen_D hx hb hml hown hts hE hJ0 hAl hR hB hRf hRl hRc hRs (fun WC H locs ls hX hP hD hS hJ hl => ?_) 20 0 rfl _ _ _ _ hX hP hD hS hJ hl
  replace hl : lv_has ls 4 [(1, .long (sD f 20)), (0, .ref fe)] := lv_sub hl [1, 2] rfl
  refine lv_iconst (v := nI 0) hx hb dL_seen_147 (by decide +kernel) ?_
  refine lv_istore_n (lv' := [(3, .int (nI 0)), (1, .long (sD f 20)), (0, .ref fe)]) hx hb dL_seen_148 rfl hl (by decide) rfl (fun ls hl => ?_)
  refine seen_E hx hb hml hown hts hE hJ0 hAl hR hB hRf hRl hRc hRs (fun WC H locs ls hX hP hD hS hJ hl => ?_) 3 0 rfl _ _ _ _ hX hP hD hS hJ hl
  replace hl : lv_has ls 4 [(1, .long (sE f 3)), (0, .ref fe)] := lv_sub hl [1, 2] rfl
  refine lv_ldc2 (v := 31) hx hb hown (hts (.constantLong RL 83 (31)) (by decide +kernel)) dL_seen_173 ?_
  refine lv_ldc2 (v := 31) hx hb hown (hts (.constantLong RL 83 (31)) (by decide +kernel)) dL_seen_176 ?_
  refine lv_lload_n hx hb dL_seen_179 rfl (lv_at hl 0 rfl) ?_
  refine lv_lmul hx hb dL_seen_180 ?_
  refine lv_aload_n hx hb dL_seen_181 rfl (lv_at hl 1 rfl) ?_
  refine cx0 (st1 := [.int (nI (nCr 100 f)), .long (31 * (sE f 3)), .long 31]) (va_runV (As := []) (rest := [.long (31 * (sE f 3)), .long 31]) ⟨hx, hb, hml, hown, hts⟩ (CX_lasts_ok l G hX hR hB) (cwV 0 hts gL_seen_X5_lasts rfl rfl rfl (by decide +kernel) ⟨Nat.le_of_ble_eq_true rfl, Nat.le_of_ble_eq_true rfl⟩) (PJ.preV hE hJ.jx (xs_recv hE.1 hX (P_pre hP)) ⟨P_pre hP, D_tr (D_pre hD)⟩) rfl rfl hl.1 rfl (lv_room (Nat.le_of_ble_eq_true rfl)) dL_seen_182 ⟨Nat.zero_le _, Nat.zero_le _⟩) hP hD hS hJ0 hAl rfl (fun WC H locs hX hP hD hS hJ => ?_)
  refine lv_i2l (v := (nI (nCr 100 f)).toInt64) hx hb dL_seen_185 rfl ?_
  refine lv_ladd hx hb dL_seen_186 ?_
  refine lv_lmul hx hb dL_seen_187 ?_
  refine lv_aload_n hx hb dL_seen_188 rfl (lv_at hl 1 rfl) ?_
  refine cx0 (st1 := [.int (fNd f), .long (31 * ((31 * (sE f 3)) + ((nI (nCr 100 f)).toInt64)))]) (va_runV (As := []) (rest := [.long (31 * ((31 * (sE f 3)) + ((nI (nCr 100 f)).toInt64)))]) ⟨hx, hb, hml, hown, hts⟩ (CX_needed_ok l G hX hR hB) (cwV 0 hts gL_seen_X5_needed rfl rfl rfl (by decide +kernel) ⟨Nat.le_of_ble_eq_true rfl, Nat.le_of_ble_eq_true rfl⟩) (PJ.preV hE hJ.jx (xs_recv hE.1 hX (P_pre hP)) ⟨P_pre hP, D_tr (D_pre hD)⟩) rfl rfl hl.1 rfl (lv_room (Nat.le_of_ble_eq_true rfl)) dL_seen_189 ⟨Nat.zero_le _, Nat.zero_le _⟩) hP hD hS hJ0 hAl rfl (fun WC H locs hX hP hD hS hJ => ?_)
  refine lv_i2l (v := (fNd f).toInt64) hx hb dL_seen_192 rfl ?_
  refine lv_ladd hx hb dL_seen_193 ?_
  subst hAe
  exact W.lret hx hb hr (fun t ht hW => ⟨rfl, by rw [ht]; exact ⟨WC, hX, P_pre hP, D_pre hD⟩, hS.F ht⟩) hS.2.2 dL_seen_194

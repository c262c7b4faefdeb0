/-! words of up to eight characters -/
def tyL (bs : List Nat) (len : Nat) : Nat → Nat
  | 0 => len
  | i + 1 => if bs.getD i 0 = 0 then tyL bs len i else tyL bs len i + 1
def tyT (bs : List Nat) (len : Nat) (tx : Nat → Int32) : Nat → (Nat → Int32)
  | 0 => tx
  | i + 1 => if bs.getD i 0 = 0 then tyT bs len tx i else upd (tyT bs len tx i) (tyL bs len i) (nI (bs.getD i 0))
theorem tyL_s {bs : List Nat} {len i : Nat} : tyL bs len (i + 1) = if bs.getD i 0 = 0 then tyL bs len i else tyL bs len i + 1 := rfl
theorem tyT_s {bs : List Nat} {len i : Nat} {tx : Nat → Int32} : tyT bs len tx (i + 1) = if bs.getD i 0 = 0 then tyT bs len tx i else upd (tyT bs len tx i) (tyL bs len i) (nI (bs.getD i 0)) := rfl
theorem tyL_le {bs : List Nat} {len : Nat} : ∀ i, tyL bs len i ≤ len + i := by
  intro i
  induction i with
  | zero => exact Nat.le_refl _
  | succ i ih =>
    rw [tyL_s]
    split <;> omega
theorem tyT_hi {bs : List Nat} {len : Nat} {tx : Nat → Int32} {j : Nat} (hj : 60 ≤ j) : ∀ i, len + i ≤ 60 → tyT bs len tx i j = tx j := by
  intro i
  induction i with
  | zero => intro _; rfl
  | succ i ih =>
    intro h
    have h2 := tyL_le (bs := bs) (len := len) i
    rw [tyT_s]
    split
    · exact ih (by omega)
    · exact (pk_un (by omega)).trans (ih (by omega))
theorem doD_a {f : Nat → Int32} {L x y a b : Nat} (hL : L = 97) (hx : x = a) (hy : y = b) : doD f L x y = fArr f a (nI b) := by subst hL; subst hx; subst hy; simp [doD]
theorem doD_l {f : Nat → Int32} {L x y a : Nat} (hL : L = 108) (hx : x = a) : doD f L x y = fLod f a := by subst hL; subst hx; simp [doD]
theorem doD_u {f : Nat → Int32} {L x y : Nat} (hL : L = 117) : doD f L x y = fUnl f := by subst hL; simp [doD]
theorem doD_x {f : Nat → Int32} {L x y : Nat} (hL : L = 120) : doD f L x y = fCrs f := by subst hL; simp [doD]
theorem doD_w {f : Nat → Int32} {L x y a : Nat} (hL : L = 119) (hx : x = a) : doD f L x y = fPas f (nI a) := by subst hL; subst hx; simp [doD]
theorem doD_d {f : Nat → Int32} {L x y a : Nat} (hL : L = 100) (hx : x = a) : doD f L x y = fDrw f a := by subst hL; subst hx; simp [doD]
theorem yF_do {t : Nat → Nat} {n k i : Nat} {f g : Nat → Int32} (h : isT t i) (c : cnY t n i f = true) (e : doY t n i f = g) : yF t n (k + 1) i f = yF t n k (i + 1) g := by
  subst e
  simp only [yF, if_pos h, if_pos c]
theorem yF_no {t : Nat → Nat} {n k i : Nat} {f : Nat → Int32} (h : ¬ isT t i) : yF t n (k + 1) i f = yF t n k (i + 1) f := by simp only [yF, if_neg h]
theorem yF_st {t : Nat → Nat} {n k i : Nat} {f : Nat → Int32} (h : isT t i) (c : ¬ cnY t n i f = true) : yF t n (k + 1) i f = f := by simp only [yF, if_pos h, if_neg c]
def wdB (x : Int64) (bs : List Nat) : Prop := ∀ i, i < 8 → ((x >>> ((nI (56 - 8 * i)).toInt64 &&& 63)) &&& 255).toInt32 = nI (bs.getD i 0) ∧ (bs.getD i 0 = 0 ∨ (33 ≤ bs.getD i 0 ∧ bs.getD i 0 ≤ 126))
theorem PR_tyi {B : Nat} {f sf : Nat → Int32} {ff : Nat → Nat → Int32} {old sz len : Nat} {tx : Nat → Int32} {hsn : Int32} {x : Int64} {bs : List Nat} (hw : wdB x bs) (hlen : len + 8 ≤ 60) (hR : PR B f sf ff old sz len tx hsn) : ∀ i, i ≤ 8 → PR B f sf ff old sz (tyL bs len i) (tyT bs len tx i) hsn := by
  intro i
  induction i with
  | zero => intro _; exact hR
  | succ i ih =>
    intro h
    have h1 := ih (by omega)
    have h2 := tyL_le (bs := bs) (len := len) i
    have h3 := (hw i (by omega)).2
    show PR B f sf ff old sz (if _ then _ else _) (if _ then _ else _) hsn
    by_cases hz : bs.getD i 0 = 0
    · rw [if_pos hz, if_pos hz]; exact h1
    · rw [if_neg hz, if_neg hz]; exact PR_app h1 (by omega) (by omega)
theorem PR_ty {B : Nat} {f sf : Nat → Int32} {ff : Nat → Nat → Int32} {old sz len : Nat} {tx : Nat → Int32} {hsn : Int32} {x : Int64} {bs : List Nat} (hw : wdB x bs) (hlen : len + 8 ≤ 60) (hR : PR B f sf ff old sz len tx hsn) : PR B f sf ff old sz (tyL bs len 8) (tyT bs len tx 8) hsn := PR_tyi hw hlen hR 8 (Nat.le_refl _)
set_option maxHeartbeats 4000000 in
set_option maxRecDepth 100000 in
theorem ty_it {p : Program} {l : Launch} {e : Env} {R : Room} {s : State} {m : MethodId} {args : Array Value} {below : List Frame} {meth : Method} {c : Code} {G : eG} {lo : Nat} {A : Nat → Prop} {Q : State → Prop} {cells slots : Nat} {fe B : Nat} {f sf : Nat → Int32} {ff : Nat → Nat → Int32} {old sz len : Nat} {tx : Nat → Int32} {hsn : Int32} (hx : p.tables.exec = Jvm.exec) (hb : c.code = cL_types) (hml : c.maxLocals = 6) (hown : s.vm.findClass RL = some m.cls) (hts : ∀ w ∈ wsL_types, w.before args s = true) (hE : EV G s) (hJ0 : JB lo s s.heap) (hAl : ∀ q, A q → lo ≤ q) (hB : B < 700000000) (hRf : 5 ≤ R.frames) (hRl : 120 ≤ R.locals) (hRc : cells ≤ R.cells) (hRs : slots ≤ R.slots) {x : Int64} {kv kn : Int32} {b : Nat} (hk0 : ¬ kv < 0) (hkn : kv + Int32.ofInt (-8) = kn) (hby : ((x >>> (kv.toInt64 &&& 63)) &&& 255).toInt32 = nI b) (hbv : b = 0 ∨ (33 ≤ b ∧ b ≤ 126)) (hlen : len < 60) {WC : va_W} {H : Heap} {locs : List Loc} {ls : Array Slot} (hX : XS G fe f sf ff old sz len tx hsn WC) (hR : PR B f sf ff old sz len tx hsn) (hP : va_P G.1 vwCl (WC ++ []) H) (hD : va_D A (WC ++ [])) (hS : va_S A s.heap H locs) (hJ : JB lo s H) (hl : lv_has ls 6 [(4, .int kv), (3, .int (nI 1)), (1, .long x), (0, .ref fe)]) (kk : ∀ (WC : va_W) (H : Heap) (locs : List Loc) (ls : Array Slot), XS G fe f sf ff old sz (if b = 0 then len else len + 1) (if b = 0 then tx else upd tx len (nI b)) hsn WC → PR B f sf ff old sz (if b = 0 then len else len + 1) (if b = 0 then tx else upd tx len (nI b)) hsn → va_P G.1 vwCl (WC ++ []) H → va_D A (WC ++ []) → va_S A s.heap H locs → JB lo s H → lv_has ls 6 [(4, .int kn), (3, .int (nI 1)), (1, .long x), (0, .ref fe)] → W p l e R s m args below meth c H locs cells slots Q (F0 m 6 ls [])) : W p l e R s m args below meth c H locs cells slots Q (F0 m 6 ls []) := by
  refine lv_iload hx hb dL_types_6 (lv_at hl 0 rfl) ?_
  refine lv_if_lt (tgt := 52) hx hb dL_types_8 (by decide) (fun h => absurd h hk0) (fun _ => ?_)
  refine lv_lload_n hx hb dL_types_11 rfl (lv_at hl 2 rfl) ?_
  refine lv_iload hx hb dL_types_12 (lv_at hl 0 rfl) ?_
  refine lv_lshr (v := x >>> (kv.toInt64 &&& 63)) hx hb dL_types_14 rfl ?_
  refine lv_ldc2 (v := 255) hx hb hown (hts (.constantLong RL 133 (255)) (by decide +kernel)) dL_types_15 ?_
  refine lv_land hx hb dL_types_18 ?_
  refine lv_l2i (v := nI b) hx hb dL_types_19 hby ?_
  refine lv_istore (lv' := [(5, .int (nI b)), (4, .int kv), (3, .int (nI 1)), (1, .long x), (0, .ref fe)]) hx hb dL_types_20 hl (by decide) rfl (fun ls hl => ?_)
  refine lv_iload_n hx hb dL_types_22 rfl (lv_at hl 2 rfl) ?_
  refine lv_if_eq (tgt := 44) hx hb dL_types_23 (by decide) (fun h => absurd h (by decide +kernel)) (fun _ => ?_)
  refine lv_iload hx hb dL_types_26 (lv_at hl 0 rfl) ?_
  by_cases hz : b = 0
  · rw [if_pos hz, if_pos hz] at kk
    refine lv_if_eq (tgt := 40) hx hb dL_types_28 (by decide) (fun _ => ?_) (fun h => absurd (show nI b = 0 by rw [hz]; decide +kernel) h)
    refine lv_iconst (v := nI 1) hx hb dL_types_40 (by decide +kernel) ?_
    refine lv_goto (tgt := 45) hx hb dL_types_41 (by decide) ?_
    refine lv_istore_n (lv' := [(3, .int (nI 1)), (5, .int (nI b)), (4, .int kv), (1, .long x), (0, .ref fe)]) hx hb dL_types_45 rfl hl (by decide) rfl (fun ls hl => ?_)
    refine lv_iinc (v := kn) (lv' := [(4, .int kn), (3, .int (nI 1)), (5, .int (nI b)), (1, .long x), (0, .ref fe)]) hx hb dL_types_46 hl (k := 2) rfl hkn (by decide) rfl (fun ls hl => ?_)
    refine lv_goto (tgt := 6) hx hb dL_types_49 (by decide) ?_
    exact kk WC H locs ls hX hR hP hD hS hJ (lv_sub hl [0, 1, 3, 4] rfl)
  · skip
    refine lv_if_eq (tgt := 40) hx hb dL_types_28 (by decide) (fun h => absurd h (nI_ne0 (by omega) (by omega))) (fun _ => ?_)
    refine lv_aload_n hx hb dL_types_31 rfl (lv_at hl 4 rfl) ?_
    refine lv_iload hx hb dL_types_32 (lv_at hl 0 rfl) ?_
    rw [if_neg hz, if_neg hz] at kk
    refine cx0 (st1 := [.int (nI (len + 1))]) (va_runV (As := [.int (nI b)]) (rest := []) ⟨hx, hb, hml, hown, hts⟩ (CX_append_ok l G hX hR hB hlen b (by omega) (by omega)) (cwV 1 hts gL_types_X5_append rfl rfl rfl (by decide +kernel) ⟨Nat.le_trans (Nat.le_of_ble_eq_true rfl) hRf, Nat.le_trans (Nat.le_of_ble_eq_true rfl) hRl⟩) (PJ.preV hE hJ.jx (xs_recv hE.1 hX (P_pre hP)) ⟨P_pre hP, D_tr (D_pre hD)⟩) rfl rfl hl.1 rfl (lv_room (Nat.le_of_ble_eq_true rfl)) dL_types_34 ⟨hRc, hRs⟩) hP hD hS hJ0 hAl rfl (fun WC H locs hX hP hD hS hJ => ?_)
    refine if_leN (tgt := 44) hx hb (by omega) dL_types_37 (by decide) (fun h => absurd h (by omega)) (fun _ => ?_)
    refine lv_iconst (v := nI 1) hx hb dL_types_40 (by decide +kernel) ?_
    refine lv_goto (tgt := 45) hx hb dL_types_41 (by decide) ?_
    refine lv_istore_n (lv' := [(3, .int (nI 1)), (5, .int (nI b)), (4, .int kv), (1, .long x), (0, .ref fe)]) hx hb dL_types_45 rfl hl (by decide) rfl (fun ls hl => ?_)
    refine lv_iinc (v := kn) (lv' := [(4, .int kn), (3, .int (nI 1)), (5, .int (nI b)), (1, .long x), (0, .ref fe)]) hx hb dL_types_46 hl (k := 2) rfl hkn (by decide) rfl (fun ls hl => ?_)
    refine lv_goto (tgt := 6) hx hb dL_types_49 (by decide) ?_
    exact kk WC H locs ls hX (PR_app hR hlen (by omega)) hP hD hS hJ (lv_sub hl [0, 1, 3, 4] rfl)
set_option maxHeartbeats 8000000 in
set_option maxRecDepth 100000 in
theorem K_types (l : Launch) (G : eG) {lo : Nat} {fe B : Nat} {f sf : Nat → Int32} {ff : Nat → Nat → Int32} {old sz len : Nat} {tx : Nat → Int32} {hsn : Int32} {WC : va_W} (hX : XS G fe f sf ff old sz len tx hsn WC) (hR : PR B f sf ff old sz len tx hsn) (hB : B < 700000000) (x : Int64) (bs : List Nat) (hw : wdB x bs) (hlen : len + 8 ≤ 60) : Met l yL_types wsL_types ({ frames := 5, cells := 0, slots := 0, locals := 120 }) (PK lo [.ref fe, .long x] G (fun H => va_P G.1 vwCl WC H ∧ va_D (AL lo) WC)) (MV (some (.int (nI 1))) (fun H => ∃ W', XS G fe f sf ff old sz (tyL bs len 8) (tyT bs len tx 8) hsn W' ∧ va_P G.1 vwCl W' H ∧ va_D (inW WC) W') (inW WC)) 0 0 (inW WC) := by
  refine ofBK (cc := cL_types) (maxL := 6) (ret := some .boolean) (by decide) rfl (Nat.le_of_ble_eq_true rfl) ?_
  intro p e s m below meth c hx hb hr hlocks hml hown hin hts hE hJ0 hI ls hl
  replace hown : s.vm.findClass RL = some m.cls := hown
  have hl : lv_has ls 6 [(0, .ref fe), (1, .long x)] := hl
  obtain ⟨hP, hD0⟩ := hI
  have hAl : ∀ q, inW WC q → lo ≤ q := fun q h => inW_D hD0 q h
  have hD : va_D (inW WC) (WC ++ []) := by rw [List.append_nil]; exact D_self hD0
  obtain ⟨A, hAe⟩ : ∃ A, A = inW WC := ⟨_, rfl⟩
  rw [← hAe] at hD hAl
  have hS : va_S A s.heap s.heap [] := va_S.rf
  obtain ⟨H, hHe⟩ : ∃ H, H = s.heap := ⟨_, rfl⟩
  obtain ⟨locs, hle⟩ : ∃ q : List Loc, q = [] := ⟨_, rfl⟩
  rw [← hle] at hS ⊢
  have hP : va_P G.1 vwCl (WC ++ []) H := by rw [hHe, List.append_nil]; exact hP
  replace hS : va_S A s.heap H locs := by rw [hHe]; exact hS
  have hJ : JB lo s H := hJ0.S hAl hS
  refine tH hHe ?_
  have hRf : 5 ≤ ({ frames := 5, cells := 0, slots := 0, locals := 120 } : Room).frames := Nat.le_refl _
  have hRl : 120 ≤ ({ frames := 5, cells := 0, slots := 0, locals := 120 } : Room).locals := Nat.le_refl _
  have hRc : 0 ≤ ({ frames := 5, cells := 0, slots := 0, locals := 120 } : Room).cells := Nat.le_refl _
  have hRs : 0 ≤ ({ frames := 5, cells := 0, slots := 0, locals := 120 } : Room).slots := Nat.le_refl _
  refine lv_iconst (v := nI 1) hx hb dL_types_0 (by decide +kernel) ?_
  refine lv_istore_n (lv' := [(3, .int (nI 1)), (0, .ref fe), (1, .long x)]) hx hb dL_types_1 rfl hl (by decide) rfl (fun ls hl => ?_)
  refine lv_bipush (v := nI 56) hx hb dL_types_2 (by decide +kernel) ?_
  refine lv_istore (lv' := [(4, .int (nI 56)), (3, .int (nI 1)), (0, .ref fe), (1, .long x)]) hx hb dL_types_4 hl (by decide) rfl (fun ls hl => ?_)
  replace hl : lv_has ls 6 [(4, .int (nI 56)), (3, .int (nI 1)), (1, .long x), (0, .ref fe)] := lv_sub hl [0, 1, 3, 2] rfl
  refine ty_it hx hb hml hown hts hE hJ0 hAl hB hRf hRl hRc hRs (kv := nI 56) (kn := nI 48) (b := bs.getD 0 0) (by decide +kernel) (by decide +kernel) (hw 0 (by decide)).1 (hw 0 (by decide)).2 (by omega) hX hR hP hD hS hJ hl (fun WC H locs ls hX hR hP hD hS hJ hl => ?_)
  replace hX : XS G fe f sf ff old sz (tyL bs len 1) (tyT bs len tx 1) hsn WC := hX
  replace hR : PR B f sf ff old sz (tyL bs len 1) (tyT bs len tx 1) hsn := hR
  have hq := tyL_le (bs := bs) (len := len) 1
  refine ty_it hx hb hml hown hts hE hJ0 hAl hB hRf hRl hRc hRs (kv := nI 48) (kn := nI 40) (b := bs.getD 1 0) (by decide +kernel) (by decide +kernel) (hw 1 (by decide)).1 (hw 1 (by decide)).2 (by omega) hX hR hP hD hS hJ hl (fun WC H locs ls hX hR hP hD hS hJ hl => ?_)
  replace hX : XS G fe f sf ff old sz (tyL bs len 2) (tyT bs len tx 2) hsn WC := hX
  replace hR : PR B f sf ff old sz (tyL bs len 2) (tyT bs len tx 2) hsn := hR
  have hq := tyL_le (bs := bs) (len := len) 2
  refine ty_it hx hb hml hown hts hE hJ0 hAl hB hRf hRl hRc hRs (kv := nI 40) (kn := nI 32) (b := bs.getD 2 0) (by decide +kernel) (by decide +kernel) (hw 2 (by decide)).1 (hw 2 (by decide)).2 (by omega) hX hR hP hD hS hJ hl (fun WC H locs ls hX hR hP hD hS hJ hl => ?_)
  replace hX : XS G fe f sf ff old sz (tyL bs len 3) (tyT bs len tx 3) hsn WC := hX
  replace hR : PR B f sf ff old sz (tyL bs len 3) (tyT bs len tx 3) hsn := hR
  have hq := tyL_le (bs := bs) (len := len) 3
  refine ty_it hx hb hml hown hts hE hJ0 hAl hB hRf hRl hRc hRs (kv := nI 32) (kn := nI 24) (b := bs.getD 3 0) (by decide +kernel) (by decide +kernel) (hw 3 (by decide)).1 (hw 3 (by decide)).2 (by omega) hX hR hP hD hS hJ hl (fun WC H locs ls hX hR hP hD hS hJ hl => ?_)
  replace hX : XS G fe f sf ff old sz (tyL bs len 4) (tyT bs len tx 4) hsn WC := hX
  replace hR : PR B f sf ff old sz (tyL bs len 4) (tyT bs len tx 4) hsn := hR
  have hq := tyL_le (bs := bs) (len := len) 4
  refine ty_it hx hb hml hown hts hE hJ0 hAl hB hRf hRl hRc hRs (kv := nI 24) (kn := nI 16) (b := bs.getD 4 0) (by decide +kernel) (by decide +kernel) (hw 4 (by decide)).1 (hw 4 (by decide)).2 (by omega) hX hR hP hD hS hJ hl (fun WC H locs ls hX hR hP hD hS hJ hl => ?_)
  replace hX : XS G fe f sf ff old sz (tyL bs len 5) (tyT bs len tx 5) hsn WC := hX
  replace hR : PR B f sf ff old sz (tyL bs len 5) (tyT bs len tx 5) hsn := hR
  have hq := tyL_le (bs := bs) (len := len) 5
  refine ty_it hx hb hml hown hts hE hJ0 hAl hB hRf hRl hRc hRs (kv := nI 16) (kn := nI 8) (b := bs.getD 5 0) (by decide +kernel) (by decide +kernel) (hw 5 (by decide)).1 (hw 5 (by decide)).2 (by omega) hX hR hP hD hS hJ hl (fun WC H locs ls hX hR hP hD hS hJ hl => ?_)
  replace hX : XS G fe f sf ff old sz (tyL bs len 6) (tyT bs len tx 6) hsn WC := hX
  replace hR : PR B f sf ff old sz (tyL bs len 6) (tyT bs len tx 6) hsn := hR
  have hq := tyL_le (bs := bs) (len := len) 6
  refine ty_it hx hb hml hown hts hE hJ0 hAl hB hRf hRl hRc hRs (kv := nI 8) (kn := nI 0) (b := bs.getD 6 0) (by decide +kernel) (by decide +kernel) (hw 6 (by decide)).1 (hw 6 (by decide)).2 (by omega) hX hR hP hD hS hJ hl (fun WC H locs ls hX hR hP hD hS hJ hl => ?_)
  replace hX : XS G fe f sf ff old sz (tyL bs len 7) (tyT bs len tx 7) hsn WC := hX
  replace hR : PR B f sf ff old sz (tyL bs len 7) (tyT bs len tx 7) hsn := hR
  have hq := tyL_le (bs := bs) (len := len) 7
  refine ty_it hx hb hml hown hts hE hJ0 hAl hB hRf hRl hRc hRs (kv := nI 0) (kn := (-8)) (b := bs.getD 7 0) (by decide +kernel) (by decide +kernel) (hw 7 (by decide)).1 (hw 7 (by decide)).2 (by omega) hX hR hP hD hS hJ hl (fun WC H locs ls hX hR hP hD hS hJ hl => ?_)
  replace hX : XS G fe f sf ff old sz (tyL bs len 8) (tyT bs len tx 8) hsn WC := hX
  replace hR : PR B f sf ff old sz (tyL bs len 8) (tyT bs len tx 8) hsn := hR
  refine lv_iload hx hb dL_types_6 (lv_at hl 0 rfl) ?_
  refine lv_if_lt (tgt := 52) hx hb dL_types_8 (by decide) (fun _ => ?_) (fun h => absurd h (by decide +kernel))
  refine lv_iload_n hx hb dL_types_52 rfl (lv_at hl 1 rfl) ?_
  subst hAe
  exact W.zret hx hb hr rfl (fun t ht hW => ⟨rfl, by rw [ht]; exact ⟨WC, hX, P_pre hP, D_pre hD⟩, hS.F ht⟩) hS.2.2 dL_types_53
set_option maxHeartbeats 8000000 in
set_option maxRecDepth 100000 in
theorem K_isError (l : Launch) (G : eG) {lo : Nat} {fe B : Nat} {f sf : Nat → Int32} {ff : Nat → Nat → Int32} {old sz len : Nat} {tx : Nat → Int32} {hsn : Int32} {WC : va_W} (hX : XS G fe f sf ff old sz len tx hsn WC) (hR : PR B f sf ff old sz len tx hsn) (hB : B < 700000000) (x1 x2 : Int64) (b1 b2 : List Nat) (er : Nat) (hw1 : wdB x1 b1) (hw2 : wdB x2 b2) (her : rR (nn (tyT b2 (tyL b1 0 8) (tyT b1 0 tx 8) 8)) (tyL b2 (tyL b1 0 8) 8) = er) (her6 : er ≤ 60) : Met l yL_isError wsL_isError ({ frames := 7, cells := 0, slots := 0, locals := 180 }) (PK lo [.ref fe, .long x1, .long x2, .int (nI er)] G (fun H => va_P G.1 vwCl WC H ∧ va_D (AL lo) WC)) (MV (some (.int (nI 1))) (fun H => ∃ W', XS G fe f sf ff old sz (tyL b2 (tyL b1 0 8) 8) (tyT b2 (tyL b1 0 8) (tyT b1 0 tx 8) 8) hsn W' ∧ va_P G.1 vwCl W' H ∧ va_D (inW WC) W') (inW WC)) 0 0 (inW WC) := by
  refine ofBK (cc := cL_isError) (maxL := 6) (ret := some .boolean) (by decide) rfl (Nat.le_of_ble_eq_true rfl) ?_
  intro p e s m below meth c hx hb hr hlocks hml hown hin hts hE hJ0 hI ls hl
  replace hown : s.vm.findClass RL = some m.cls := hown
  have hl : lv_has ls 6 [(0, .ref fe), (1, .long x1), (3, .long x2), (5, .int (nI er))] := hl
  obtain ⟨hP, hD0⟩ := hI
  have hAl : ∀ q, inW WC q → lo ≤ q := fun q h => inW_D hD0 q h
  have hD : va_D (inW WC) (WC ++ []) := by rw [List.append_nil]; exact D_self hD0
  obtain ⟨A, hAe⟩ : ∃ A, A = inW WC := ⟨_, rfl⟩
  rw [← hAe] at hD hAl
  have hS : va_S A s.heap s.heap [] := va_S.rf
  obtain ⟨H, hHe⟩ : ∃ H, H = s.heap := ⟨_, rfl⟩
  obtain ⟨locs, hle⟩ : ∃ q : List Loc, q = [] := ⟨_, rfl⟩
  rw [← hle] at hS ⊢
  have hP : va_P G.1 vwCl (WC ++ []) H := by rw [hHe, List.append_nil]; exact hP
  replace hS : va_S A s.heap H locs := by rw [hHe]; exact hS
  have hJ : JB lo s H := hJ0.S hAl hS
  refine tH hHe ?_
  have hq6 := hR.2.2.2.2.2.1.1
  have hq1 := tyL_le (bs := b1) (len := 0) 8
  refine lv_aload_n hx hb dL_isError_0 rfl (lv_at hl 0 rfl) ?_
  refine cx0 (st1 := [.int (nI len)]) (va_runV (As := []) (rest := []) ⟨hx, hb, hml, hown, hts⟩ (CX_clearBuffer l G hX hR hB) (cwV 0 hts gL_isError_X5_clearBuffer rfl rfl rfl (by decide +kernel) ⟨Nat.le_of_ble_eq_true rfl, Nat.le_of_ble_eq_true rfl⟩) (PJ.preV hE hJ.jx (xs_recv hE.1 hX (P_pre hP)) ⟨P_pre hP, D_tr (D_pre hD)⟩) rfl rfl hl.1 rfl (lv_room (Nat.le_of_ble_eq_true rfl)) dL_isError_1 ⟨Nat.zero_le _, Nat.zero_le _⟩) hP hD hS hJ0 hAl rfl (fun WC H locs hX hP hD hS hJ => ?_)
  have hR := PR_len0 hR
  refine lv_if_lt (tgt := 36) hx hb dL_isError_4 (by decide) (fun h => absurd h (nI_pos (by omega))) (fun _ => ?_)
  refine lv_aload_n hx hb dL_isError_7 rfl (lv_at hl 0 rfl) ?_
  refine lv_lload_n hx hb dL_isError_8 rfl (lv_at hl 1 rfl) ?_
  refine cx0 (st1 := [.int (nI 1)]) (va_runS (As := [.ref fe, .long x1]) (rest := []) ⟨hx, hb, hml, hown, hts⟩ (K_types l G hX hR hB x1 b1 hw1 (by decide)) (va_cwS 2 hts gL_isError_L_types rfl rfl rfl (by decide +kernel) ⟨Nat.le_of_ble_eq_true rfl, Nat.le_of_ble_eq_true rfl⟩) (PK.preS hE hJ ⟨P_pre hP, D_al hAl (D_pre hD)⟩) rfl rfl hl.1 rfl (lv_room (Nat.le_of_ble_eq_true rfl)) dL_isError_9 ⟨Nat.zero_le _, Nat.zero_le _⟩) hP hD hS hJ0 hAl rfl (fun WC H locs hX hP hD hS hJ => ?_)
  have hR : PR B f sf ff old sz (tyL b1 0 8) (tyT b1 0 tx 8) hsn := PR_ty hw1 (by decide) hR
  refine lv_if_eq (tgt := 36) hx hb dL_isError_12 (by decide) (fun h => absurd h (by decide +kernel)) (fun _ => ?_)
  refine lv_aload_n hx hb dL_isError_15 rfl (lv_at hl 0 rfl) ?_
  refine lv_lload_n hx hb dL_isError_16 rfl (lv_at hl 2 rfl) ?_
  refine cx0 (st1 := [.int (nI 1)]) (va_runS (As := [.ref fe, .long x2]) (rest := []) ⟨hx, hb, hml, hown, hts⟩ (K_types l G hX hR hB x2 b2 hw2 (by omega)) (va_cwS 2 hts gL_isError_L_types rfl rfl rfl (by decide +kernel) ⟨Nat.le_of_ble_eq_true rfl, Nat.le_of_ble_eq_true rfl⟩) (PK.preS hE hJ ⟨P_pre hP, D_al hAl (D_pre hD)⟩) rfl rfl hl.1 rfl (lv_room (Nat.le_of_ble_eq_true rfl)) dL_isError_17 ⟨Nat.zero_le _, Nat.zero_le _⟩) hP hD hS hJ0 hAl rfl (fun WC H locs hX hP hD hS hJ => ?_)
  have hR : PR B f sf ff old sz (tyL b2 (tyL b1 0 8) 8) (tyT b2 (tyL b1 0 8) (tyT b1 0 tx 8) 8) hsn := PR_ty hw2 (by omega) hR
  refine lv_if_eq (tgt := 36) hx hb dL_isError_20 (by decide) (fun h => absurd h (by decide +kernel)) (fun _ => ?_)
  refine lv_aload_n hx hb dL_isError_23 rfl (lv_at hl 0 rfl) ?_
  refine cx0 (st1 := [.int (nI (rR (nn (tyT b2 (tyL b1 0 8) (tyT b1 0 tx 8) 8)) (tyL b2 (tyL b1 0 8) 8)))]) (va_runV (As := []) (rest := []) ⟨hx, hb, hml, hown, hts⟩ (CX_firstError l G hX hR hB) (cwV 0 hts gL_isError_X5_firstError rfl rfl rfl (by decide +kernel) ⟨Nat.le_of_ble_eq_true rfl, Nat.le_of_ble_eq_true rfl⟩) (PJ.preV hE hJ.jx (xs_recv hE.1 hX (P_pre hP)) ⟨P_pre hP, D_tr (D_pre hD)⟩) rfl rfl hl.1 rfl (lv_room (Nat.le_of_ble_eq_true rfl)) dL_isError_24 ⟨Nat.zero_le _, Nat.zero_le _⟩) hP hD hS hJ0 hAl rfl (fun WC H locs hX hP hD hS hJ => ?_)
  rw [her]
  refine lv_iload hx hb dL_isError_27 (lv_at hl 3 rfl) ?_
  refine lv_icmp_ne (tgt := 36) hx hb dL_isError_29 (by decide) (fun h => absurd rfl h) (fun _ => ?_)
  refine lv_iconst (v := nI 1) hx hb dL_isError_32 (by decide +kernel) ?_
  refine lv_goto (tgt := 37) hx hb dL_isError_33 (by decide) ?_
  subst hAe
  exact W.zret hx hb hr rfl (fun t ht hW => ⟨rfl, by rw [ht]; exact ⟨WC, hX, P_pre hP, D_pre hD⟩, hS.F ht⟩) hS.2.2 dL_isError_37

/-! the shares of a state; bits of shares -/
theorem nI_dec {x : Nat} (h : 1 ≤ x) : nI x + Int32.ofInt (-1) = nI (x - 1) := by
  obtain ⟨y, rfl⟩ : ∃ y, x = y + 1 := ⟨x - 1, by omega⟩
  rw [show Int32.ofInt (-1) = -1 from by decide +kernel, ← Int32.sub_eq_add_neg, nI_pred, Nat.add_sub_cancel]
theorem lN_dec {x : Nat} (h : 1 ≤ x) : lN x - 1 = lN (x - 1) := by
  obtain ⟨y, rfl⟩ : ∃ y, x = y + 1 := ⟨x - 1, by omega⟩
  show Int64.ofNat (y + 1) - 1 = Int64.ofNat (y + 1 - 1)
  rw [Int64.ofNat_add, Nat.add_sub_cancel]
  exact Int64.add_sub_cancel _ _
theorem shl23 : ∀ x, x < 128 → nI x <<< (nI 23 &&& 31) = nI (x * 8388608) := by decide +kernel
theorem shl52 : ∀ x, x < 1024 → lN x <<< ((nI 52).toInt64 &&& 63) = lN (x * 4503599627370496) := by decide +kernel
theorem lcm1 {x : Nat} (h : 1 < x) (h2 : x < 1024) : ¬ lg_cmp (lN x) 1 ≤ 0 := by
  have e : (1 : Int64) < lN x := by
    rw [Int64.lt_iff_toInt_lt, lN_toInt (by omega)]
    show (1 : Int) < _
    omega
  unfold lg_cmp
  rw [if_pos e]
  decide
def fWs (f : Nat → Int32) : UInt32 := FP.fdiv (FP.i2f (sumI (fun k => f (27 + k)) 20)) 1184645120
def fCs (f : Nat → Int32) : UInt64 := if f 54 + f 55 = 0 then FP.dconst1 else FP.ddiv (FP.i2d (f 54)) (FP.i2d (f 54 + f 55))
theorem worn_f {B : Nat} {f : Nat → Int32} (ho : Okf B f) : Sh32 (fWs f) := by
  obtain ⟨S, h1, h2⟩ := sumI_b (g := fun k => f (27 + k)) (m := 1000) (n := 20) (fun j hj => ⟨_, (ho.2.1 j hj).2, (ho.2.1 j hj).1⟩)
  unfold fWs
  rw [h2]
  exact worn_sh (by omega)
theorem carr_f {B : Nat} {f : Nat → Int32} (ho : Okf B f) (hB : B < 700000000) : Sh64 (fCs f) := by
  have h8 := ho.2.2.1.2.2.2.2.2.1
  have h9 := ho.2.2.1.2.2.2.2.2.2
  have b8 := h8.2
  have b9 := h9.2
  unfold fCs
  split
  · exact sh64_1
  · rename_i h
    rw [h8.1, h9.1, nI_add] at h ⊢
    refine carr_sh (by omega) ?_ (by omega)
    rcases Nat.eq_zero_or_pos (nn f 54 + nn f 55) with z | z
    · rw [z] at h
      exact absurd rfl h
    · exact z
theorem carr_n {B : Nat} {f : Nat → Int32} (ho : Okf B f) (hB : B < 700000000) (h : ¬ f 54 + f 55 = 0) : vf_n64 (FP.ddiv (FP.i2d (f 54)) (FP.i2d (f 54 + f 55))) := by
  have k := sh64_n (carr_f ho hB)
  unfold fCs at k
  rw [if_neg h] at k
  exact k

set_option maxHeartbeats 4000000 in
set_option maxRecDepth 100000 in
theorem c_X5_floatBits_0 (l : Launch) (G : eG)  : Met l yX5_floatBits wsX5_floatBits ({ frames := 0, cells := 0, slots := 0, locals := 0 }) (PC [.float 0] G (fun H => va_P G.1 vwCl [] H)) (PQ (some (.int (nI 0)))) 0 0 noA := by
  refine ofB (cc := cX5_floatBits) (maxL := 3) (ret := (some .int)) (by decide) rfl (Nat.le_of_ble_eq_true rfl) ?_
  intro p e s m below meth c hx hb hr hlocks hml hown hin hts hE hI ls hl
  replace hown : s.vm.findClass RX5 = some m.cls := hown
  have hl : lv_has ls 3 [(0, .float 0)] := hl
  have hP : va_P G.1 vwCl [] s.heap := hI
  skip
  refine lv_fload_n hx hb dX5_floatBits_0 rfl (lv_at hl 0 rfl) ?_
  refine lv_fconst0 hx hb dX5_floatBits_1 ?_
  refine lv_fcmp hx hb dX5_floatBits_2 ?_
  refine tI (y := nI 0) (by decide +kernel) ?_
  refine lv_if_gt (tgt := 8) hx hb dX5_floatBits_3 (by decide) (fun c3 => ?_) (fun c3 => ?_)
  · skip
    exact absurd c3 (by decide)
  · skip
    refine lv_iconst (v := nI 0) hx hb dX5_floatBits_6 (by decide +kernel) ?_
    exact W.iret hx hb hr (fun t ht hW => ⟨rfl, ht⟩) (fun _ h => nomatch h) dX5_floatBits_7
set_option maxHeartbeats 4000000 in
set_option maxRecDepth 100000 in
theorem c_X5_floatBits_1 (l : Launch) (G : eG) (cc9 : Nat) (q : Int) (h : N32 cc9 q) (hq : q ≤ -23) : Met l yX5_floatBits wsX5_floatBits ({ frames := 0, cells := 0, slots := 0, locals := 0 }) (PC [.float (F32 cc9 q)] G (fun H => va_P G.1 vwCl [] H)) (PQ (some (.int (nI (bt32 cc9 q))))) 0 0 noA := by
  refine ofB (cc := cX5_floatBits) (maxL := 3) (ret := (some .int)) (by decide) rfl (Nat.le_of_ble_eq_true rfl) ?_
  intro p e s m below meth c hx hb hr hlocks hml hown hin hts hE hI ls hl
  replace hown : s.vm.findClass RX5 = some m.cls := hown
  have hl : lv_has ls 3 [(0, .float (F32 cc9 q))] := hl
  have hP : va_P G.1 vwCl [] s.heap := hI
  have w_0 := hts (.constantFloat RX5 372 (1258291200)) (by decide +kernel)
  obtain ⟨hc1, hc2, hq1, hq2⟩ := h
  have h : N32 cc9 q := ⟨hc1, hc2, hq1, hq2⟩
  have hN3 : N32 cc9 (-23) := ⟨hc1, hc2, by decide, by decide⟩
  refine lv_fload_n hx hb dX5_floatBits_0 rfl (lv_at hl 0 rfl) ?_
  refine lv_fconst0 hx hb dX5_floatBits_1 ?_
  refine lv_fcmp hx hb dX5_floatBits_2 ?_
  refine tI (y := nI 1) (cmp0_32 h) ?_
  refine lv_if_gt (tgt := 8) hx hb dX5_floatBits_3 (by decide) (fun c3 => ?_) (fun c3 => ?_)
  · skip
    refine lv_fload_n hx hb dX5_floatBits_8 rfl (lv_at hl 0 rfl) ?_
    refine lv_fstore_n (lv' := [(1, .float (F32 cc9 q)), (0, .float (F32 cc9 q))]) hx hb dX5_floatBits_9 rfl hl (by decide) rfl (fun ls hl => ?_)
    refine lv_bipush (v := nI 127) hx hb dX5_floatBits_10 (by decide +kernel) ?_
    refine lv_istore_n (lv' := [(2, .int (nI 127)), (1, .float (F32 cc9 q)), (0, .float (F32 cc9 q))]) hx hb dX5_floatBits_12 rfl hl (by decide) rfl (fun ls hl => ?_)
    refine loopL (σ := Int × Nat) (n := 3) (pc1 := 13) (fun (z_ : Int × Nat) => match z_ with | (z, ex) => (-23 - z).toNat) (fun (z_ : Int × Nat) => match z_ with | (z, ex) => q ≤ z ∧ z ≤ -23 ∧ N32 cc9 z ∧ (ex : Int) = 127 + q - z) (fun (z_ : Int × Nat) => match z_ with | (z, ex) => [(2, .int (nI ex)), (1, .float (F32 cc9 z)), (0, .float (F32 cc9 q))]) (fun (z_ : Int × Nat) => match z_ with | (z, ex) => []) ?_ (q, 127) _ ⟨by omega, hq, h, by omega⟩ (lv_sub hl [0, 1, 2] rfl)
    rintro ⟨z, ex⟩ ls hI hl ih13
    have hl : lv_has ls 3 [(2, .int (nI ex)), (1, .float (F32 cc9 z)), (0, .float (F32 cc9 q))] := hl
    replace hI : q ≤ z ∧ z ≤ -23 ∧ N32 cc9 z ∧ (ex : Int) = 127 + q - z := hI
    obtain ⟨hqz, hz23, hN, hex⟩ := hI
    refine tS (st' := []) rfl ?_
    refine lv_fload_n hx hb dX5_floatBits_13 rfl (lv_at hl 1 rfl) ?_
    refine lv_fconst1 hx hb dX5_floatBits_14 ?_
    refine lv_fcmp hx hb dX5_floatBits_15 ?_
    refine lv_if_ge (tgt := 34) hx hb dX5_floatBits_16 (by decide) (fun c16 => ?_) (fun c16 => ?_)
    · skip
      have hz : z = -23 := by
        have q9 : ¬ z ≤ -24 := fun q => Int32.not_lt.mpr c16 ((cmp1_32 hN hz23).mpr q)
        omega
      rw [hz] at hl
      have hl : lv_has ls 3 [(2, .int (nI ex)), (1, .float (F32 cc9 (-23))), (0, .float (F32 cc9 q))] := hl
      refine lv_iload_n hx hb dX5_floatBits_34 rfl (lv_at hl 0 rfl) ?_
      refine lv_bipush (v := nI 23) hx hb dX5_floatBits_35 (by decide +kernel) ?_
      refine lv_ishl hx hb dX5_floatBits_37 ?_
      refine tI (y := nI (ex * 8388608)) (shl23 ex (by omega)) ?_
      refine lv_fload_n hx hb dX5_floatBits_38 rfl (lv_at hl 1 rfl) ?_
      refine lv_fconst1 hx hb dX5_floatBits_39 ?_
      refine lv_fsub hx hb dX5_floatBits_40 (frac32 hN3).1 ?_
      refine lv_ldcwf (v := 1258291200) hx hb hown w_0 dX5_floatBits_41 ?_
      refine lv_fmul hx hb dX5_floatBits_44 (frac32 hN3).2.1 ?_
      refine lv_f2i hx hb dX5_floatBits_45 ?_
      refine tI (y := nI (cc9 - 8388608)) ((frac32 hN3).2.2) ?_
      refine iaddN hx hb dX5_floatBits_46 ?_
      refine tS (st' := [.int (nI (bt32 cc9 q))]) (congrArg (fun z => [Value.int z]) (congrArg nI (by unfold bt32; rw [show (q + 149).toNat + 1 = ex by omega]))) ?_
      exact W.iret hx hb hr (fun t ht hW => ⟨rfl, ht⟩) (fun _ h => nomatch h) dX5_floatBits_47
    · skip
      have hz24 : z ≤ -24 := (cmp1_32 hN hz23).mp (Int32.not_le.mp c16)
      refine lv_iload_n hx hb dX5_floatBits_19 rfl (lv_at hl 0 rfl) ?_
      refine lv_iconst (v := nI 1) hx hb dX5_floatBits_20 (by decide +kernel) ?_
      refine icmp_leN (tgt := 34) hx hb (by omega) (by omega) dX5_floatBits_21 (by decide) (fun c21 => ?_) (fun c21 => ?_)
      · skip
        omega
      · skip
        refine lv_fload_n hx hb dX5_floatBits_24 rfl (lv_at hl 1 rfl) ?_
        refine lv_fconst2 hx hb dX5_floatBits_25 ?_
        refine lv_fmul hx hb dX5_floatBits_26 (by rw [(dbl32 hN hz24).1]; exact n32 (dbl32 hN hz24).2) ?_
        refine tS (st' := [.float (F32 cc9 (z + 1))]) (congrArg (fun z => Value.float z :: []) ((dbl32 hN hz24).1)) ?_
        refine lv_fstore_n (lv' := [(1, .float (F32 cc9 (z + 1))), (2, .int (nI ex)), (0, .float (F32 cc9 q))]) hx hb dX5_floatBits_27 rfl hl (by decide) rfl (fun ls hl => ?_)
        refine lv_iinc (v := nI (ex - 1)) (lv' := [(2, .int (nI (ex - 1))), (1, .float (F32 cc9 (z + 1))), (0, .float (F32 cc9 q))]) hx hb dX5_floatBits_28 hl (k := 1) rfl (nI_dec (by omega)) (by decide) rfl (fun ls hl => ?_)
        refine lv_goto (tgt := 13) hx hb dX5_floatBits_31 (by decide) ?_
        exact ih13 ((z + 1), (ex - 1)) _ ⟨by omega, by omega, (dbl32 hN hz24).2, by omega⟩ (lv_sub hl [0, 1, 2] rfl) (by (try dsimp only); omega)
  · skip
    exact absurd c3 (by decide)
set_option maxHeartbeats 4000000 in
set_option maxRecDepth 100000 in
theorem c_X5_doubleBits_0 (l : Launch) (G : eG)  : Met l yX5_doubleBits wsX5_doubleBits ({ frames := 0, cells := 0, slots := 0, locals := 0 }) (PC [.double 0] G (fun H => va_P G.1 vwCl [] H)) (PQ (some (.long 0))) 0 0 noA := by
  refine ofB (cc := cX5_doubleBits) (maxL := 6) (ret := (some .long)) (by decide) rfl (Nat.le_of_ble_eq_true rfl) ?_
  intro p e s m below meth c hx hb hr hlocks hml hown hin hts hE hI ls hl
  replace hown : s.vm.findClass RX5 = some m.cls := hown
  have hl : lv_has ls 6 [(0, .double 0)] := hl
  have hP : va_P G.1 vwCl [] s.heap := hI
  skip
  refine lv_dload_n hx hb dX5_doubleBits_0 rfl (lv_at hl 0 rfl) ?_
  refine lv_dconst0 hx hb dX5_doubleBits_1 ?_
  refine lv_dcmp hx hb dX5_doubleBits_2 ?_
  refine tI (y := nI 0) (by decide +kernel) ?_
  refine lv_if_gt (tgt := 8) hx hb dX5_doubleBits_3 (by decide) (fun c3 => ?_) (fun c3 => ?_)
  · skip
    exact absurd c3 (by decide)
  · skip
    refine lv_lconst (v := 0) hx hb dX5_doubleBits_6 (by decide +kernel) ?_
    exact W.lret hx hb hr (fun t ht hW => ⟨rfl, ht⟩) (fun _ h => nomatch h) dX5_doubleBits_7
set_option maxHeartbeats 4000000 in
set_option maxRecDepth 100000 in
theorem c_X5_doubleBits_1 (l : Launch) (G : eG) (cc9 : Nat) (q : Int) (h : N64 cc9 q) (hq : q ≤ -52) : Met l yX5_doubleBits wsX5_doubleBits ({ frames := 0, cells := 0, slots := 0, locals := 0 }) (PC [.double (F64 cc9 q)] G (fun H => va_P G.1 vwCl [] H)) (PQ (some (.long (lN (bt64 cc9 q))))) 0 0 noA := by
  refine ofB (cc := cX5_doubleBits) (maxL := 6) (ret := (some .long)) (by decide) rfl (Nat.le_of_ble_eq_true rfl) ?_
  intro p e s m below meth c hx hb hr hlocks hml hown hin hts hE hI ls hl
  replace hown : s.vm.findClass RX5 = some m.cls := hown
  have hl : lv_has ls 6 [(0, .double (F64 cc9 q))] := hl
  have hP : va_P G.1 vwCl [] s.heap := hI
  have w_0 := hts (.constantLong RX5 373 (1023)) (by decide +kernel)
  have w_1 := hts (.constantDouble RX5 377 (4841369599423283200)) (by decide +kernel)
  have w_2 := hts (.constantDouble RX5 375 (4611686018427387904)) (by decide +kernel)
  obtain ⟨hc1, hc2, hq1, hq2⟩ := h
  have h : N64 cc9 q := ⟨hc1, hc2, hq1, hq2⟩
  have hN3 : N64 cc9 (-52) := ⟨hc1, hc2, by decide, by decide⟩
  refine lv_dload_n hx hb dX5_doubleBits_0 rfl (lv_at hl 0 rfl) ?_
  refine lv_dconst0 hx hb dX5_doubleBits_1 ?_
  refine lv_dcmp hx hb dX5_doubleBits_2 ?_
  refine tI (y := nI 1) (cmp0_64 h) ?_
  refine lv_if_gt (tgt := 8) hx hb dX5_doubleBits_3 (by decide) (fun c3 => ?_) (fun c3 => ?_)
  · skip
    refine lv_dload_n hx hb dX5_doubleBits_8 rfl (lv_at hl 0 rfl) ?_
    refine lv_dstore_n (lv' := [(2, .double (F64 cc9 q)), (0, .double (F64 cc9 q))]) hx hb dX5_doubleBits_9 rfl hl (by decide) rfl (fun ls hl => ?_)
    refine lv_ldc2 (v := 1023) hx hb hown w_0 dX5_doubleBits_10 ?_
    refine tS (st' := [.long (lN 1023)]) (congrArg (fun z => Value.long z :: []) (rfl)) ?_
    refine lv_lstore (lv' := [(4, .long (lN 1023)), (2, .double (F64 cc9 q)), (0, .double (F64 cc9 q))]) hx hb dX5_doubleBits_13 hl (by decide) rfl (fun ls hl => ?_)
    refine loopL (σ := Int × Nat) (n := 6) (pc1 := 15) (fun (z_ : Int × Nat) => match z_ with | (z, ex) => (-52 - z).toNat) (fun (z_ : Int × Nat) => match z_ with | (z, ex) => q ≤ z ∧ z ≤ -52 ∧ N64 cc9 z ∧ (ex : Int) = 1023 + q - z) (fun (z_ : Int × Nat) => match z_ with | (z, ex) => [(4, .long (lN ex)), (2, .double (F64 cc9 z)), (0, .double (F64 cc9 q))]) (fun (z_ : Int × Nat) => match z_ with | (z, ex) => []) ?_ (q, 1023) _ ⟨by omega, hq, h, by omega⟩ (lv_sub hl [0, 1, 2] rfl)
    rintro ⟨z, ex⟩ ls hI hl ih15
    have hl : lv_has ls 6 [(4, .long (lN ex)), (2, .double (F64 cc9 z)), (0, .double (F64 cc9 q))] := hl
    replace hI : q ≤ z ∧ z ≤ -52 ∧ N64 cc9 z ∧ (ex : Int) = 1023 + q - z := hI
    obtain ⟨hqz, hz23, hN, hex⟩ := hI
    refine tS (st' := []) rfl ?_
    refine lv_dload_n hx hb dX5_doubleBits_15 rfl (lv_at hl 1 rfl) ?_
    refine lv_dconst1 hx hb dX5_doubleBits_16 ?_
    refine lv_dcmp hx hb dX5_doubleBits_17 ?_
    refine lv_if_ge (tgt := 43) hx hb dX5_doubleBits_18 (by decide) (fun c18 => ?_) (fun c18 => ?_)
    · skip
      have hz : z = -52 := by
        have q9 : ¬ z ≤ -53 := fun q => Int32.not_lt.mpr c18 ((cmp1_64 hN hz23).mpr q)
        omega
      rw [hz] at hl
      have hl : lv_has ls 6 [(4, .long (lN ex)), (2, .double (F64 cc9 (-52))), (0, .double (F64 cc9 q))] := hl
      refine lv_lload hx hb dX5_doubleBits_43 (lv_at hl 0 rfl) ?_
      refine lv_bipush (v := nI 52) hx hb dX5_doubleBits_45 (by decide +kernel) ?_
      refine lv_lshl (v := lN (ex * 4503599627370496)) hx hb dX5_doubleBits_47 (shl52 ex (by omega)) ?_
      refine lv_dload_n hx hb dX5_doubleBits_48 rfl (lv_at hl 1 rfl) ?_
      refine lv_dconst1 hx hb dX5_doubleBits_49 ?_
      refine lv_dsub hx hb dX5_doubleBits_50 (frac64 hN3).1 ?_
      refine lv_ldc2d (v := 4841369599423283200) hx hb hown w_1 dX5_doubleBits_51 ?_
      refine lv_dmul hx hb dX5_doubleBits_54 (frac64 hN3).2.1 ?_
      refine lv_d2l hx hb dX5_doubleBits_55 ?_
      refine tS (st' := [.long (lN (cc9 - 4503599627370496)), .long (lN (ex * 4503599627370496))]) (congrArg (fun z => Value.long z :: [.long (lN (ex * 4503599627370496))]) ((frac64 hN3).2.2)) ?_
      refine lv_ladd hx hb dX5_doubleBits_56 ?_
      refine tS (st' := [.long (lN (bt64 cc9 q))]) (congrArg (fun z => Value.long z :: []) (by unfold bt64; rw [lN_add, show (q + 1074).toNat + 1 = ex by omega])) ?_
      exact W.lret hx hb hr (fun t ht hW => ⟨rfl, ht⟩) (fun _ h => nomatch h) dX5_doubleBits_57
    · skip
      have hz24 : z ≤ -53 := (cmp1_64 hN hz23).mp (Int32.not_le.mp c18)
      refine lv_lload hx hb dX5_doubleBits_21 (lv_at hl 0 rfl) ?_
      refine lv_lconst (v := 1) hx hb dX5_doubleBits_23 (by decide +kernel) ?_
      refine W.lcmp hx hb dX5_doubleBits_24 ?_
      refine lv_if_le (tgt := 43) hx hb dX5_doubleBits_25 (by decide) (fun c25 => ?_) (fun c25 => ?_)
      · skip
        exact absurd c25 (lcm1 (by omega) (by omega))
      · skip
        refine lv_dload_n hx hb dX5_doubleBits_28 rfl (lv_at hl 1 rfl) ?_
        refine lv_ldc2d (v := 4611686018427387904) hx hb hown w_2 dX5_doubleBits_29 ?_
        refine lv_dmul hx hb dX5_doubleBits_32 (by rw [(dbl64 hN hz24).1]; exact n64 (dbl64 hN hz24).2) ?_
        refine tS (st' := [.double (F64 cc9 (z + 1))]) (congrArg (fun z => Value.double z :: []) ((dbl64 hN hz24).1)) ?_
        refine lv_dstore_n (lv' := [(2, .double (F64 cc9 (z + 1))), (4, .long (lN ex)), (0, .double (F64 cc9 q))]) hx hb dX5_doubleBits_33 rfl hl (by decide) rfl (fun ls hl => ?_)
        refine lv_lload hx hb dX5_doubleBits_34 (lv_at hl 1 rfl) ?_
        refine lv_lconst (v := 1) hx hb dX5_doubleBits_36 (by decide +kernel) ?_
        refine lv_lsub hx hb dX5_doubleBits_37 ?_
        refine tS (st' := [.long (lN (ex - 1))]) (congrArg (fun z => Value.long z :: []) (lN_dec (by omega))) ?_
        refine lv_lstore (lv' := [(4, .long (lN (ex - 1))), (2, .double (F64 cc9 (z + 1))), (0, .double (F64 cc9 q))]) hx hb dX5_doubleBits_38 hl (by decide) rfl (fun ls hl => ?_)
        refine lv_goto (tgt := 15) hx hb dX5_doubleBits_40 (by decide) ?_
        exact ih15 ((z + 1), (ex - 1)) _ ⟨by omega, by omega, (dbl64 hN hz24).2, by omega⟩ (lv_sub hl [0, 1, 2] rfl) (by (try dsimp only); omega)
  · skip
    exact absurd c3 (by decide)
set_option maxHeartbeats 4000000 in
set_option maxRecDepth 100000 in
theorem c_X5_wornShare (l : Launch) (G : eG) (fe ta sa ha oa : Nat) (hsn : Int32) (an : Nat → Nat) (f : Nat → Int32) (v0 v1 : Int32) (w : Nat → Nat → Int32) (B : Nat) (hB : B < 700000000) (ho : Okf B f) : Met l yX5_wornShare wsX5_wornShare ({ frames := 2, cells := 0, slots := 0, locals := 43 }) (PC [.ref fe] G (fun H => va_P G.1 vwCl ([(fe, .inr (5, [.ref (an 0), .ref ta, .ref sa, .ref ha, .ref oa, .int hsn]))] ++ (cST G an f v0 v1 w ++ ([]))) H)) (PQ (some (.float (fWs f)))) 0 0 noA := by
  refine ofB (cc := cX5_wornShare) (maxL := 1) (ret := (some .float)) (by decide) rfl (Nat.le_of_ble_eq_true rfl) ?_
  intro p e s m below meth c hx hb hr hlocks hml hown hin hts hE hI ls hl
  replace hown : s.vm.findClass RX5 = some m.cls := hown
  have hl : lv_has ls 1 [(0, .ref fe)] := hl
  have hP : va_P G.1 vwCl ([(fe, .inr (5, [.ref (an 0), .ref ta, .ref sa, .ref ha, .ref oa, .int hsn]))] ++ (cST G an f v0 v1 w ++ ([]))) s.heap := hI
  have w_0 : ∀ w ∈ u_ws RX5 TX5 6, w ∈ wsX5_wornShare := by decide +kernel
  have w_1 := hts (.fieldLink RX5 10 "CableFerry" "now" "LCableFerry$State;") (by decide +kernel)
  have w_2 : ∀ w ∈ u_ws RX3 TX3 14, w ∈ wsX5_wornShare := by decide +kernel
  have w_3 := hts (.fieldLink RX5 141 "CableFerry$State" "wire" "LCableFerry$Wire;") (by decide +kernel)
  have w_4 := hts (.constantFloat RX5 274 (1184645120)) (by decide +kernel)
  skip
  refine lv_aload_n hx hb dX5_wornShare_0 rfl (lv_at hl 0 rfl) ?_
  refine va_get (D := G.1) (ci := 5) (v := .ref (an 0)) (C := RX5) (T := TX5) (N := 6) hx hb hts w_0 hown hE.1 hP 0 rfl rfl 0 (by decide) w_1 (fun _ h9 => h9) rfl dX5_wornShare_1 ?_
  replace hP : va_P G.1 vwCl (cST G an f v0 v1 w ++ ([(fe, .inr (5, [.ref (an 0), .ref ta, .ref sa, .ref ha, .ref oa, .int hsn]))] ++ ([]))) s.heap := P_perm br1 hP
  refine va_get (D := G.1) (ci := 3) (v := .ref (an 15)) (C := RX3) (T := TX3) (N := 14) hx hb hts w_2 hown hE.1 hP 0 rfl rfl 6 (by decide) w_3 (fun _ h9 => h9) rfl dX5_wornShare_4 ?_
  refine pcall (st1 := [.int (sumI (fun k => f (27 + k)) 20)]) (va_runV (As := []) (rest := []) ⟨hx, hb, hml, hown, hts⟩ (c_X4_wearTogether l G (an 15) (an 16) f) (cwV 0 hts gX5_wornShare_X4_wearTogether rfl rfl rfl (by decide +kernel) ⟨Nat.le_of_ble_eq_true rfl, Nat.le_of_ble_eq_true rfl⟩) (PC.preV hE (va_recv hE.1 hP (ci := 4) (q0 := 15) rfl rfl) (hP.sub [15, 16] rfl)) rfl rfl hl.1 rfl (lv_room (Nat.le_of_ble_eq_true rfl)) dX5_wornShare_7 ⟨Nat.zero_le _, Nat.zero_le _⟩) rfl ?_
  refine lv_i2f hx hb dX5_wornShare_10 ?_
  refine lv_ldcwf (v := 1184645120) hx hb hown w_4 dX5_wornShare_11 ?_
  refine lv_fdiv hx hb dX5_wornShare_14 (sh32_n (worn_f ho)) ?_
  refine tS (st' := [.float (fWs f)]) (congrArg (fun z => [Value.float z]) (rfl)) ?_
  exact W.fret hx hb hr (fun t ht hW => ⟨rfl, ht⟩) (fun _ h => nomatch h) dX5_wornShare_15
set_option maxHeartbeats 4000000 in
set_option maxRecDepth 100000 in
theorem c_X5_carriedShare (l : Launch) (G : eG) (fe ta sa ha oa : Nat) (hsn : Int32) (an : Nat → Nat) (f : Nat → Int32) (v0 v1 : Int32) (w : Nat → Nat → Int32) (B : Nat) (hB : B < 700000000) (ho : Okf B f) : Met l yX5_carriedShare wsX5_carriedShare ({ frames := 0, cells := 0, slots := 0, locals := 0 }) (PC [.ref fe] G (fun H => va_P G.1 vwCl ([(fe, .inr (5, [.ref (an 0), .ref ta, .ref sa, .ref ha, .ref oa, .int hsn]))] ++ (cST G an f v0 v1 w ++ ([]))) H)) (PQ (some (.double (fCs f)))) 0 0 noA := by
  refine ofB (cc := cX5_carriedShare) (maxL := 2) (ret := (some .double)) (by decide) rfl (Nat.le_of_ble_eq_true rfl) ?_
  intro p e s m below meth c hx hb hr hlocks hml hown hin hts hE hI ls hl
  replace hown : s.vm.findClass RX5 = some m.cls := hown
  have hl : lv_has ls 2 [(0, .ref fe)] := hl
  have hP : va_P G.1 vwCl ([(fe, .inr (5, [.ref (an 0), .ref ta, .ref sa, .ref ha, .ref oa, .int hsn]))] ++ (cST G an f v0 v1 w ++ ([]))) s.heap := hI
  have w_0 : ∀ w ∈ u_ws RX5 TX5 6, w ∈ wsX5_carriedShare := by decide +kernel
  have w_1 := hts (.fieldLink RX5 10 "CableFerry" "now" "LCableFerry$State;") (by decide +kernel)
  have w_2 : ∀ w ∈ u_ws RX3 TX3 14, w ∈ wsX5_carriedShare := by decide +kernel
  have w_3 := hts (.fieldLink RX5 249 "CableFerry$State" "carried" "I") (by decide +kernel)
  have w_4 := hts (.fieldLink RX5 252 "CableFerry$State" "turnedBack" "I") (by decide +kernel)
  skip
  refine lv_aload_n hx hb dX5_carriedShare_0 rfl (lv_at hl 0 rfl) ?_
  refine va_get (D := G.1) (ci := 5) (v := .ref (an 0)) (C := RX5) (T := TX5) (N := 6) hx hb hts w_0 hown hE.1 hP 0 rfl rfl 0 (by decide) w_1 (fun _ h9 => h9) rfl dX5_carriedShare_1 ?_
  replace hP : va_P G.1 vwCl (cST G an f v0 v1 w ++ ([(fe, .inr (5, [.ref (an 0), .ref ta, .ref sa, .ref ha, .ref oa, .int hsn]))] ++ ([]))) s.heap := P_perm br1 hP
  refine va_get (D := G.1) (ci := 3) (v := .int (f 54)) (C := RX3) (T := TX3) (N := 14) hx hb hts w_2 hown hE.1 hP 0 rfl rfl 11 (by decide) w_3 (fun _ h9 => h9) rfl dX5_carriedShare_4 ?_
  refine lv_aload_n hx hb dX5_carriedShare_7 rfl (lv_at hl 0 rfl) ?_
  replace hP : va_P G.1 vwCl ([(fe, .inr (5, [.ref (an 0), .ref ta, .ref sa, .ref ha, .ref oa, .int hsn]))] ++ (cST G an f v0 v1 w ++ ([]))) s.heap := P_perm br1 hP
  refine va_get (D := G.1) (ci := 5) (v := .ref (an 0)) (C := RX5) (T := TX5) (N := 6) hx hb hts w_0 hown hE.1 hP 0 rfl rfl 0 (by decide) w_1 (fun _ h9 => h9) rfl dX5_carriedShare_8 ?_
  replace hP : va_P G.1 vwCl (cST G an f v0 v1 w ++ ([(fe, .inr (5, [.ref (an 0), .ref ta, .ref sa, .ref ha, .ref oa, .int hsn]))] ++ ([]))) s.heap := P_perm br1 hP
  refine va_get (D := G.1) (ci := 3) (v := .int (f 55)) (C := RX3) (T := TX3) (N := 14) hx hb hts w_2 hown hE.1 hP 0 rfl rfl 12 (by decide) w_4 (fun _ h9 => h9) rfl dX5_carriedShare_11 ?_
  refine lv_iadd hx hb dX5_carriedShare_14 ?_
  refine lv_istore_n (lv' := [(1, .int ((f 54) + (f 55))), (0, .ref fe)]) hx hb dX5_carriedShare_15 rfl hl (by decide) rfl (fun ls hl => ?_)
  refine lv_iload_n hx hb dX5_carriedShare_16 rfl (lv_at hl 0 rfl) ?_
  refine lv_if_ne (tgt := 22) hx hb dX5_carriedShare_17 (by decide) (fun c17 => ?_) (fun c17 => ?_)
  · skip
    refine lv_aload_n hx hb dX5_carriedShare_22 rfl (lv_at hl 1 rfl) ?_
    replace hP : va_P G.1 vwCl ([(fe, .inr (5, [.ref (an 0), .ref ta, .ref sa, .ref ha, .ref oa, .int hsn]))] ++ (cST G an f v0 v1 w ++ ([]))) s.heap := P_perm br1 hP
    refine va_get (D := G.1) (ci := 5) (v := .ref (an 0)) (C := RX5) (T := TX5) (N := 6) hx hb hts w_0 hown hE.1 hP 0 rfl rfl 0 (by decide) w_1 (fun _ h9 => h9) rfl dX5_carriedShare_23 ?_
    replace hP : va_P G.1 vwCl (cST G an f v0 v1 w ++ ([(fe, .inr (5, [.ref (an 0), .ref ta, .ref sa, .ref ha, .ref oa, .int hsn]))] ++ ([]))) s.heap := P_perm br1 hP
    refine va_get (D := G.1) (ci := 3) (v := .int (f 54)) (C := RX3) (T := TX3) (N := 14) hx hb hts w_2 hown hE.1 hP 0 rfl rfl 11 (by decide) w_3 (fun _ h9 => h9) rfl dX5_carriedShare_26 ?_
    refine lv_i2d hx hb dX5_carriedShare_29 ?_
    refine lv_iload_n hx hb dX5_carriedShare_30 rfl (lv_at hl 0 rfl) ?_
    refine lv_i2d hx hb dX5_carriedShare_31 ?_
    refine lv_ddiv hx hb dX5_carriedShare_32 (carr_n ho hB c17) ?_
    refine tS (st' := [.double (fCs f)]) (congrArg (fun z => [Value.double z]) ((if_neg c17).symm)) ?_
    exact W.dret hx hb hr (fun t ht hW => ⟨rfl, ht⟩) (fun _ h => nomatch h) dX5_carriedShare_33
  · skip
    refine lv_dconst1 hx hb dX5_carriedShare_20 ?_
    refine tS (st' := [.double (fCs f)]) (congrArg (fun z => [Value.double z]) ((if_pos c17).symm)) ?_
    exact W.dret hx hb hr (fun t ht hW => ⟨rfl, ht⟩) (fun _ h => nomatch h) dX5_carriedShare_21

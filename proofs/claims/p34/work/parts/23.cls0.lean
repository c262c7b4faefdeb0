/-- as ofB, for a method of the JDK's that no entry replaces -/
theorem ofBF {l : Launch} {y : MethodName} {ws ws' : List Cond} {rm : Room} {Qc : Array Value → State → Outcome → State → Prop} {mc ms : Nat} {free : Addr → Prop} {cc : ByteArray} {maxL : Nat} {ret : Option FieldType} {As : List Value} {G : eG} {I : Heap → Prop}
    (hy : plainFor y = true) (hw : ws = Cond.code y cc maxL ret :: ws') (hn : (lg_sl As).length ≤ maxL)
    (body : ∀ (p : Program) (e : Env) (s : State) (m : MethodId) (below : List Frame) (meth : Method) (c : Code), p.tables.exec = Jvm.exec → c.code = cc → meth.sig.returnType = ret → meth.locks = false → c.maxLocals = maxL → s.vm.findClass y.cls = some m.cls → meth.name = y.name → (∀ w ∈ ws, w.before As.toArray s = true) → EV G s → I s.heap →
      ∀ ls : Array Slot, lv_has ls maxL (lv_args 0 As) → W p l e rm s m As.toArray below meth c s.heap [] 0 0 (MQ below Qc As.toArray s mc ms free) (F0 m 0 ls [])) : Met l y ws rm (PC As G I) Qc mc ms free := by
  refine MetFree.of_bodySF (code := cc) (maxLocals := maxL) (ret := ret) hy ?_ ?_
  · intro args s m h hn
    obtain ⟨meth, c, h1, h2, h3, h4, h5, h6, -, -⟩ := Cond.code_spec hn (atoms_spec (ws := ws) h _ (by rw [hw]; exact List.mem_cons_self))
    exact ⟨meth, c, h1, h2, h3, h4, h5, h6⟩
  · intro p e s m args below meth c s₁ B hml hP _
    have hh0 : s₁.heap = s.heap := by rw [B.state]; rfl
    obtain ⟨rfl, hE, hI⟩ := hP
    have hl := lv_entry As (n := maxL) hn
    have K := body p e s m below meth c B.exec B.bytes B.returns B.notSynchronized hml (findClass_of_methodNamed B.named) (name_of_methodNamed B.named B.method).1 (atoms_spec (ws := ws) B.pre) hE hI _ hl
    rw [← lg_entry_eq] at K
    obtain ⟨t, a1, o, b1, b2, b3⟩ := K s₁ hh0 (Stand.of_body B)
    exact ⟨t, o, a1, b1, b2, ⟨b3.1, b3.2⟩⟩
/-! the JDK's floorMod and bitCount at small numbers -/
theorem xor_nn {x y : Nat} (hx : x < 2147483648) (hy : y < 2147483648) : 0 ≤ nI x ^^^ nI y := by
  have e : nI x ^^^ nI y = nI (x ^^^ y) := by
    apply Int32.toBitVec_inj.mp
    show BitVec.ofNat 32 x ^^^ BitVec.ofNat 32 y = BitVec.ofNat 32 (x ^^^ y)
    apply BitVec.eq_of_toNat_eq
    simp [Nat.xor_mod_two_pow]
  rw [e]
  exact nI_pos' (Nat.xor_lt_two_pow (n := 31) hx hy)
set_option maxRecDepth 100000 in
theorem c_J9_floorMod_7cf53 (l : Launch) (G : eG) (x y : Nat) (h1 : x < 2147483648) (h0 : 0 < y) (hy : y < 2147483648) : Met l yJ9_floorMod_7cf53 wsJ9_floorMod_7cf53 ({ frames := 0, cells := 0, slots := 0, locals := 0 }) (PC [.int (nI x), .int (nI y)] G (fun H => va_P G.1 vwCl [] H)) (PQ (some (.int (nI (x % y))))) 0 0 noA := by
  refine ofBF (cc := cJ9_floorMod_7cf53) (maxL := 3) (ret := (some .int)) (by decide +kernel) rfl (Nat.le_of_ble_eq_true rfl) ?_
  intro p e s m below meth c hx hb hr hlocks hml hown hin hts hE hI ls hl
  have hl : lv_has ls 3 [(0, .int (nI x)), (1, .int (nI y))] := hl
  refine lv_iload_n hx hb dJ9_floorMod_7cf53_0 rfl (lv_at hl 0 rfl) ?_
  refine lv_iload_n hx hb dJ9_floorMod_7cf53_1 rfl (lv_at hl 1 rfl) ?_
  refine iremN hx hb h1 h0 hy dJ9_floorMod_7cf53_2 ?_
  refine lv_istore_n (lv' := [(2, .int (nI (x % y))), (0, .int (nI x)), (1, .int (nI y))]) hx hb dJ9_floorMod_7cf53_3 rfl hl (by decide) rfl (fun ls hl => ?_)
  refine lv_iload_n hx hb dJ9_floorMod_7cf53_4 rfl (lv_at hl 1 rfl) ?_
  refine lv_iload_n hx hb dJ9_floorMod_7cf53_5 rfl (lv_at hl 2 rfl) ?_
  refine lv_ixor hx hb dJ9_floorMod_7cf53_6 ?_
  refine lv_if_ge (tgt := 18) hx hb dJ9_floorMod_7cf53_7 (by decide) (fun c7 => ?_) (fun c7 => absurd (xor_nn h1 hy) c7)
  refine lv_iload_n hx hb dJ9_floorMod_7cf53_18 rfl (lv_at hl 0 rfl) ?_
  exact W.iret hx hb hr (fun t ht hW => ⟨rfl, ht⟩) (fun _ h => nomatch h) dJ9_floorMod_7cf53_19
def us (x y : Int32) : Int32 := (x.toUInt32 >>> (y.toUInt32 &&& Int32.toUInt32 31)).toInt32
def bc1 (x : Int32) : Int32 := x - (us x (nI 1) &&& 1431655765)
def bc2 (x : Int32) : Int32 := (bc1 x &&& 858993459) + (us (bc1 x) (nI 2) &&& 858993459)
def bc3 (x : Int32) : Int32 := (bc2 x + us (bc2 x) (nI 4)) &&& 252645135
def bc4 (x : Int32) : Int32 := bc3 x + us (bc3 x) (nI 8)
def bc5 (x : Int32) : Int32 := bc4 x + us (bc4 x) (nI 16)
theorem bc_v : ∀ s, s < 256 → bc5 (nI s) &&& nI 63 = nI (lbC s 8) := by decide +kernel
set_option maxRecDepth 100000 in
theorem c_J6_bitCount_0f7a4 (l : Launch) (G : eG) (x : Nat) (h1 : x < 256) : Met l yJ6_bitCount_0f7a4 wsJ6_bitCount_0f7a4 ({ frames := 0, cells := 0, slots := 0, locals := 0 }) (PC [.int (nI x)] G (fun H => va_P G.1 vwCl [] H)) (PQ (some (.int (nI (lbC x 8))))) 0 0 noA := by
  refine ofBF (cc := cJ6_bitCount_0f7a4) (maxL := 1) (ret := (some .int)) (by decide +kernel) rfl (Nat.le_of_ble_eq_true rfl) ?_
  intro p e s m below meth c hx hb hr hlocks hml hown hin hts hE hI ls hl
  replace hown : s.vm.findClass RJ6 = some m.cls := hown
  have w1 := hts (.constant RJ6 265 (1431655765)) (by decide +kernel)
  have w2 := hts (.constant RJ6 266 (858993459)) (by decide +kernel)
  have w3 := hts (.constant RJ6 267 (252645135)) (by decide +kernel)
  have hl : lv_has ls 1 [(0, .int (nI x))] := hl
  refine lv_iload_n hx hb dJ6_bitCount_0f7a4_0 rfl (lv_at hl 0 rfl) ?_
  refine lv_iload_n hx hb dJ6_bitCount_0f7a4_1 rfl (lv_at hl 0 rfl) ?_
  refine lv_iconst (v := nI 1) hx hb dJ6_bitCount_0f7a4_2 (by decide +kernel) ?_
  refine lv_iushr (v := us (nI x) (nI 1)) hx hb dJ6_bitCount_0f7a4_3 rfl ?_
  refine lv_ldcw hx hb hown w1 dJ6_bitCount_0f7a4_4 ?_
  refine lv_iand hx hb dJ6_bitCount_0f7a4_7 ?_
  refine lv_isub hx hb dJ6_bitCount_0f7a4_8 ?_
  refine tI (y := bc1 (nI x)) rfl ?_
  refine lv_istore_n (lv' := [(0, .int (bc1 (nI x)))]) hx hb dJ6_bitCount_0f7a4_9 rfl hl (by decide) rfl (fun ls hl => ?_)
  refine lv_iload_n hx hb dJ6_bitCount_0f7a4_10 rfl (lv_at hl 0 rfl) ?_
  refine lv_ldcw hx hb hown w2 dJ6_bitCount_0f7a4_11 ?_
  refine lv_iand hx hb dJ6_bitCount_0f7a4_14 ?_
  refine lv_iload_n hx hb dJ6_bitCount_0f7a4_15 rfl (lv_at hl 0 rfl) ?_
  refine lv_iconst (v := nI 2) hx hb dJ6_bitCount_0f7a4_16 (by decide +kernel) ?_
  refine lv_iushr (v := us (bc1 (nI x)) (nI 2)) hx hb dJ6_bitCount_0f7a4_17 rfl ?_
  refine lv_ldcw hx hb hown w2 dJ6_bitCount_0f7a4_18 ?_
  refine lv_iand hx hb dJ6_bitCount_0f7a4_21 ?_
  refine lv_iadd hx hb dJ6_bitCount_0f7a4_22 ?_
  refine tI (y := bc2 (nI x)) rfl ?_
  refine lv_istore_n (lv' := [(0, .int (bc2 (nI x)))]) hx hb dJ6_bitCount_0f7a4_23 rfl hl (by decide) rfl (fun ls hl => ?_)
  refine lv_iload_n hx hb dJ6_bitCount_0f7a4_24 rfl (lv_at hl 0 rfl) ?_
  refine lv_iload_n hx hb dJ6_bitCount_0f7a4_25 rfl (lv_at hl 0 rfl) ?_
  refine lv_iconst (v := nI 4) hx hb dJ6_bitCount_0f7a4_26 (by decide +kernel) ?_
  refine lv_iushr (v := us (bc2 (nI x)) (nI 4)) hx hb dJ6_bitCount_0f7a4_27 rfl ?_
  refine lv_iadd hx hb dJ6_bitCount_0f7a4_28 ?_
  refine lv_ldcw hx hb hown w3 dJ6_bitCount_0f7a4_29 ?_
  refine lv_iand hx hb dJ6_bitCount_0f7a4_32 ?_
  refine tI (y := bc3 (nI x)) rfl ?_
  refine lv_istore_n (lv' := [(0, .int (bc3 (nI x)))]) hx hb dJ6_bitCount_0f7a4_33 rfl hl (by decide) rfl (fun ls hl => ?_)
  refine lv_iload_n hx hb dJ6_bitCount_0f7a4_34 rfl (lv_at hl 0 rfl) ?_
  refine lv_iload_n hx hb dJ6_bitCount_0f7a4_35 rfl (lv_at hl 0 rfl) ?_
  refine lv_bipush (v := nI 8) hx hb dJ6_bitCount_0f7a4_36 (by decide +kernel) ?_
  refine lv_iushr (v := us (bc3 (nI x)) (nI 8)) hx hb dJ6_bitCount_0f7a4_38 rfl ?_
  refine lv_iadd hx hb dJ6_bitCount_0f7a4_39 ?_
  refine tI (y := bc4 (nI x)) rfl ?_
  refine lv_istore_n (lv' := [(0, .int (bc4 (nI x)))]) hx hb dJ6_bitCount_0f7a4_40 rfl hl (by decide) rfl (fun ls hl => ?_)
  refine lv_iload_n hx hb dJ6_bitCount_0f7a4_41 rfl (lv_at hl 0 rfl) ?_
  refine lv_iload_n hx hb dJ6_bitCount_0f7a4_42 rfl (lv_at hl 0 rfl) ?_
  refine lv_bipush (v := nI 16) hx hb dJ6_bitCount_0f7a4_43 (by decide +kernel) ?_
  refine lv_iushr (v := us (bc4 (nI x)) (nI 16)) hx hb dJ6_bitCount_0f7a4_45 rfl ?_
  refine lv_iadd hx hb dJ6_bitCount_0f7a4_46 ?_
  refine tI (y := bc5 (nI x)) rfl ?_
  refine lv_istore_n (lv' := [(0, .int (bc5 (nI x)))]) hx hb dJ6_bitCount_0f7a4_47 rfl hl (by decide) rfl (fun ls hl => ?_)
  refine lv_iload_n hx hb dJ6_bitCount_0f7a4_48 rfl (lv_at hl 0 rfl) ?_
  refine lv_bipush (v := nI 63) hx hb dJ6_bitCount_0f7a4_49 (by decide +kernel) ?_
  refine lv_iand hx hb dJ6_bitCount_0f7a4_51 ?_
  refine tI (y := nI (lbC x 8)) (bc_v x h1) ?_
  exact W.iret hx hb hr (fun t ht hW => ⟨rfl, ht⟩) (fun _ h => nomatch h) dJ6_bitCount_0f7a4_52
/-! pure words of the class's leaves -/
theorem far_min {k : Nat} (hk : k < 20) : (if nI (20 - k) < nI (k + 1) then nI (20 - k) else nI (k + 1)) = nI (fFar k) := by
  unfold fFar
  by_cases h : 20 - k < k + 1
  · rw [if_pos ((nI_ltI (by omega) (by omega)).mpr h), if_pos (by omega)]
  · rw [if_neg (fun q => h ((nI_ltI (by omega) (by omega)).mp q))]
    by_cases h2 : 20 - k ≤ k + 1
    · rw [if_pos h2]
      congr 1
      omega
    · rw [if_neg h2]
theorem max0 {x : Int32} : (if nI 0 < x then x else nI 0) = if 0 ≤ x then x else nI 0 := by
  by_cases h : (0 : Int32) ≤ x
  · rw [if_pos h]
    by_cases q : nI 0 < x
    · rw [if_pos q]
    · rw [if_neg q]
      exact (Int32.le_antisymm (Int32.not_lt.mp q) h).symm
  · rw [if_neg h, if_neg (fun q : nI 0 < x => h (Int32.le_of_lt q))]
def cntN (B : Nat → Int32) (v : Int32) : Nat → Nat
  | 0 => 0
  | k + 1 => cntN B v k + (if B k = v then 1 else 0)
theorem cntN_le {B : Nat → Int32} {v : Int32} {k : Nat} : cntN B v k ≤ k := by
  induction k with
  | zero => exact Nat.le_refl _
  | succ k ih =>
    show cntN B v k + _ ≤ _
    split <;> omega
/-- one place to the front -/
def shf (W : Nat → Int32) (i : Nat) : Nat → Int32 := fun j => if j + 1 < i then W (j + 1) else W j
theorem shf_1 {W : Nat → Int32} : shf W 1 = W := by
  funext j
  unfold shf
  rw [if_neg (by omega)]
theorem shf_o {W : Nat → Int32} {i : Nat} : shf W i i = W i := by
  unfold shf
  rw [if_neg (by omega)]
theorem shf_s {W : Nat → Int32} {i : Nat} (h : 1 ≤ i) : upd (shf W i) (i - 1) (W i) = shf W (i + 1) := by
  funext j
  by_cases q : j = i - 1
  · subst q
    rw [pk_us]
    unfold shf
    rw [if_pos (by omega)]
    congr 1
    omega
  · rw [pk_un q]
    unfold shf
    by_cases h2 : j + 1 < i
    · rw [if_pos h2, if_pos (by omega)]
    · rw [if_neg h2, if_neg (by omega)]
theorem cpyN {f g : Nat → Int32} {n : Nat} : ∀ j, j < n → va_cpy f g 0 0 n j = f j := fun j hj => by
  rw [pk_cpy_in (by omega) (by omega)]
  congr 1
  omega
theorem togA {f : Nat → Int32} {x : Int32} {i : Nat} : x + sumI f i + f i = x + sumI f (i + 1) := by
  rw [Int32.add_assoc]
  rfl
theorem fbears_f {f : Nat → Int32} {k : Nat} (h : ¬ fTen f k ≤ fStr f k) : ∀ n, k < n → fBears f n = false := by
  intro n
  induction n with
  | zero => intro q; omega
  | succ n ih =>
    intro q
    show (fBears f n && decide (fTen f n ≤ fStr f n)) = false
    by_cases e : k = n
    · subst e
      simp [h]
    · rw [ih (by omega)]
      rfl
theorem fbears_s {f : Nat → Int32} {k : Nat} (h : fBears f k = true) (h2 : fTen f k ≤ fStr f k) : fBears f (k + 1) = true := by
  show (fBears f k && decide (fTen f k ≤ fStr f k)) = true
  rw [h]
  simp [h2]
theorem max_b {x : Nat} (h1 : 1 ≤ x) (h : x < 2147483648) : (if nI 1 < nI x then nI x else nI 1) = nI x := by
  by_cases q : 1 < x
  · rw [if_pos ((nI_ltI (by omega) h).mpr q)]
  · rw [if_neg (fun r => q ((nI_ltI (by omega) h).mp r)), show x = 1 by omega]
theorem cap_min {x : Int32} : (if x < nI 1000 then x else nI 1000) = cap x := by
  unfold cap
  by_cases h : x ≤ nI 1000
  · rw [if_pos h]
    by_cases q : x < nI 1000
    · rw [if_pos q]
    · rw [if_neg q]
      exact Int32.le_antisymm (Int32.not_lt.mp q) h
  · rw [if_neg h, if_neg (fun q : x < nI 1000 => h (Int32.le_of_lt q))]
theorem min30 {x : Nat} (h : x < 2147483648) : (if nI x < nI 30 then nI x else nI 30) = nI (min 30 x) := by
  by_cases q : x < 30
  · rw [if_pos ((nI_ltI h (by omega)).mpr q), show min 30 x = x by omega]
  · rw [if_neg (fun r => q ((nI_ltI h (by omega)).mp r)), show min 30 x = 30 by omega]
theorem abs_I {x : Int32} : (if 0 ≤ x then x else 0 - x) = absI x := by
  unfold absI
  rw [Int32.zero_sub]

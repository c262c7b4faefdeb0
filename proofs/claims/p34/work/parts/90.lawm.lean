/-! the law: numbers drawn, parts of them -/
def PD (b L : Nat) (xs : Nat → Int32) (As : List Value) : Array Value → State → Prop := fun v U => v = As.toArray ∧ va_X b L xs U U.heap ∧ b < U.heap.size
theorem PD.preS {b L : Nat} {xs : Nat → Int32} {As : List Value} {s : State} {H : Heap} (hX : va_X b L xs s H) (hb : b < H.size) : PreS s H (PD b L xs As) As :=
  ⟨fun _ U g mk h => ⟨h.1, va_X.moved (u := U) (U := U.calling g mk _) (Vm.Alike.refl U.vm) h.2.1, h.2.2⟩, fun U hU hW => ⟨rfl, by rw [hU]; exact va_X.moved hW.alike hX, by rw [hU]; exact hb⟩⟩
theorem ofBD {l : Launch} {y : MethodName} {ws ws' : List Cond} {rm : Room} {Qc : Array Value → State → Outcome → State → Prop} {mc ms : Nat} {free : Addr → Prop} {cc : ByteArray} {maxL : Nat} {ret : Option FieldType} {As : List Value} {b L : Nat} {xs : Nat → Int32}
    (hy : plainName y.cls = true) (hw : ws = Cond.code y cc maxL ret :: ws') (hn : (lg_sl As).length ≤ maxL)
    (body : ∀ (p : Program) (e : Env) (s : State) (m : MethodId) (below : List Frame) (meth : Method) (c : Code), p.tables.exec = Jvm.exec → c.code = cc → meth.sig.returnType = ret → meth.locks = false → c.maxLocals = maxL → s.vm.findClass y.cls = some m.cls → (∀ w ∈ ws, w.before As.toArray s = true) → va_X b L xs s s.heap → b < s.heap.size →
      ∀ ls : Array Slot, lv_has ls maxL (lv_args 0 As) → W p l e rm s m As.toArray below meth c s.heap [] 0 0 (MQ below Qc As.toArray s mc ms free) (F0 m 0 ls [])) : Met l y ws rm (PD b L xs As) Qc mc ms free := by
  refine Met.ofW hy hw ?_
  intro p e s m args below meth c s₁ B hml hv
  obtain ⟨rfl, hX, hbl⟩ := hv
  have hl := lv_entry As (n := maxL) hn
  rw [lg_entry_eq]
  exact body p e s m below meth c B.exec B.bytes B.returns B.notSynchronized hml (findClass_of_methodNamed B.named) (atoms_spec (ws := ws) B.pre) hX hbl _ hl
def ptF (x : Int32) (n : Nat) : Int32 := (x &&& 2147483647) - (x &&& 2147483647) / nI n * nI n
theorem andM (x : Int32) : ∃ n, n < 2147483648 ∧ x &&& 2147483647 = nI n := by
  refine ⟨x.toBitVec.toNat &&& 2147483647, Nat.lt_of_le_of_lt Nat.and_le_right (by decide), ?_⟩
  rw [← Int32.toBitVec_inj, Int32.toBitVec_and]
  apply BitVec.eq_of_toNat_eq
  rw [BitVec.toNat_and]
  have h1 : (2147483647 : Int32).toBitVec.toNat = 2147483647 := by decide +kernel
  have h2 : (nI (x.toBitVec.toNat &&& 2147483647)).toBitVec.toNat = x.toBitVec.toNat &&& 2147483647 := by
    show (BitVec.ofNat 32 _).toNat = _
    rw [BitVec.toNat_ofNat]
    exact Nat.mod_eq_of_lt (Nat.lt_of_le_of_lt Nat.and_le_right (by decide))
  rw [h1, h2]
theorem pt_lt (x : Int32) {n : Nat} (h0 : 0 < n) (hn : n < 2147483648) : ∃ r, r < n ∧ ptF x n = nI r := by
  obtain ⟨y, hy, e⟩ := andM x
  refine ⟨y % n, Nat.mod_lt _ h0, ?_⟩
  unfold ptF
  rw [e, pk_rem hy h0 hn]
theorem K_part (l : Launch) (G : eG) (x : Int32) (n : Nat) (h0 : 0 < n) (hn : n < 2147483648) : Met l yL_part wsL_part ({ frames := 0, cells := 0, slots := 0, locals := 0 }) (PC [.int x, .int (nI n)] G (fun _ => True)) (PQ (some (.int (ptF x n)))) 0 0 noA := by
  refine ofB (cc := cL_part) (maxL := 2) (ret := some .int) (by decide) rfl (Nat.le_of_ble_eq_true rfl) ?_
  intro p e s m below meth c hx hb hr hlocks hml hown hin hts hE hI ls hl
  replace hown : s.vm.findClass RL = some m.cls := hown
  have hl : lv_has ls 2 [(0, .int x), (1, .int (nI n))] := hl
  refine lv_iload_n hx hb dL_part_0 rfl (lv_at hl 0 rfl) ?_
  refine lv_ldc (v := 2147483647) hx hb hown (hts (.constant RL 7 (2147483647)) (by decide +kernel)) dL_part_1 ?_
  refine lv_iand hx hb dL_part_3 ?_
  refine lv_iload_n hx hb dL_part_4 rfl (lv_at hl 1 rfl) ?_
  refine lv_irem hx hb dL_part_5 (nI_ne0 h0 hn) ?_
  exact W.iret hx hb hr (fun t ht hW => ⟨rfl, ht⟩) (fun _ h => nomatch h) dL_part_6
def drF (L : Nat) (xs : Nat → Int32) (k : Nat) : Int32 := if L = 0 then nI 7919 * nI k + nI 3 else ((xs (nI (k % L)).toNatClampNeg >>> (nI (k % 7) &&& 31)) ^^^ (nI (k / L) * nI 31)) ^^^ (nI k * 2654435)
theorem K_drawn (l : Launch) (b L k : Nat) (xs : Nat → Int32) (hk : k < 1000) (hL : L ≤ 260) : Met l yL_drawn wsL_drawn ({ frames := 0, cells := 0, slots := 0, locals := 0 }) (PD b L xs [.ref b, .int (nI k)]) (PQ (some (.int (drF L xs k)))) 0 0 noA := by
  refine ofBD (cc := cL_drawn) (maxL := 2) (ret := some .int) (by decide) rfl (Nat.le_of_ble_eq_true rfl) ?_
  intro p e s m below meth c hx hb hr hlocks hml hown hts hXs hbl ls hl
  replace hown : s.vm.findClass RL = some m.cls := hown
  have hl : lv_has ls 2 [(0, .ref b), (1, .int (nI k))] := hl
  have hbA : ¬ noA b := fun h => h
  have hS : va_S noA s.heap s.heap [] := va_S.rf
  by_cases hz : L = 0
  · skip
    refine lv_aload_n hx hb dL_drawn_0 rfl (lv_at hl 0 rfl) ?_
    refine va_slen hx hb hXs hbl hbA hS dL_drawn_1 ?_
    refine lv_if_ne (tgt := 15) hx hb dL_drawn_2 (by decide) (fun h => absurd (show Int32.ofNat L = 0 by rw [hz]; decide +kernel) h) (fun _ => ?_)
    refine lv_sipush (v := nI 7919) hx hb dL_drawn_5 (by decide +kernel) ?_
    refine lv_iload_n hx hb dL_drawn_8 rfl (lv_at hl 1 rfl) ?_
    refine lv_imul hx hb dL_drawn_9 ?_
    refine lv_iconst (v := nI 3) hx hb dL_drawn_10 (by decide +kernel) ?_
    refine lv_iadd hx hb dL_drawn_11 ?_
    refine lv_goto (tgt := 39) hx hb dL_drawn_12 (by decide) ?_
    refine tI (y := drF L xs k) (if_pos hz).symm ?_
    exact W.iret hx hb hr (fun t ht hW => ⟨rfl, ht⟩) (fun _ h => nomatch h) dL_drawn_39
  · skip
    refine lv_aload_n hx hb dL_drawn_0 rfl (lv_at hl 0 rfl) ?_
    refine va_slen hx hb hXs hbl hbA hS dL_drawn_1 ?_
    refine lv_if_ne (tgt := 15) hx hb dL_drawn_2 (by decide) (fun _ => ?_) (fun h => absurd h (nI_ne0 (Nat.pos_of_ne_zero hz) (by omega)))
    refine lv_aload_n hx hb dL_drawn_15 rfl (lv_at hl 0 rfl) ?_
    refine lv_iload_n hx hb dL_drawn_16 rfl (lv_at hl 1 rfl) ?_
    refine lv_aload_n hx hb dL_drawn_17 rfl (lv_at hl 0 rfl) ?_
    refine va_slen hx hb hXs hbl hbA hS dL_drawn_18 ?_
    refine iremN hx hb (by omega) (Nat.pos_of_ne_zero hz) (by omega) dL_drawn_19 ?_
    refine va_sld hx hb hXs hbl hbA hS (vp_in_nI (n := k % L) (Nat.mod_lt _ (Nat.pos_of_ne_zero hz)) (by omega)) dL_drawn_20 ?_
    refine lv_iload_n hx hb dL_drawn_21 rfl (lv_at hl 1 rfl) ?_
    refine lv_bipush (v := nI 7) hx hb dL_drawn_22 (by decide +kernel) ?_
    refine iremN hx hb (by omega) (by decide) (by decide) dL_drawn_24 ?_
    refine lv_ishr hx hb dL_drawn_25 ?_
    refine lv_iload_n hx hb dL_drawn_26 rfl (lv_at hl 1 rfl) ?_
    refine lv_aload_n hx hb dL_drawn_27 rfl (lv_at hl 0 rfl) ?_
    refine va_slen hx hb hXs hbl hbA hS dL_drawn_28 ?_
    refine idivN hx hb (by omega) (Nat.pos_of_ne_zero hz) (by omega) dL_drawn_29 ?_
    refine lv_bipush (v := nI 31) hx hb dL_drawn_30 (by decide +kernel) ?_
    refine lv_imul hx hb dL_drawn_32 ?_
    refine lv_ixor hx hb dL_drawn_33 ?_
    refine lv_iload_n hx hb dL_drawn_34 rfl (lv_at hl 1 rfl) ?_
    refine lv_ldc (v := 2654435) hx hb hown (hts (.constant RL 8 (2654435)) (by decide +kernel)) dL_drawn_35 ?_
    refine lv_imul hx hb dL_drawn_37 ?_
    refine lv_ixor hx hb dL_drawn_38 ?_
    refine tI (y := drF L xs k) (if_neg hz).symm ?_
    exact W.iret hx hb hr (fun t ht hW => ⟨rfl, ht⟩) (fun _ h => nomatch h) dL_drawn_39

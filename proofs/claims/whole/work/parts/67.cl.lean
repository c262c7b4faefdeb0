/-! the law's own methods: what they need, what a state's first cell is -/
def PL (As : List Value) (G : eG) (cJ : ClassId) (I : Heap → Prop) : Array Value → State → Prop := fun v U => v = As.toArray ∧ EV G U ∧ JX U U.heap ∧ va_K G.1 vwCl [(cJ, .long)] U ∧ I U.heap
theorem PL.preS {As : List Value} {G : eG} {cJ : ClassId} {I : Heap → Prop} {s : State} {H : Heap} (hE : EV G s) (hJ : JX s H) (hK : va_K G.1 vwCl [(cJ, .long)] s) (hI : I H) : PreS s H (PL As G cJ I) As :=
  ⟨fun _ U g mk h => ⟨h.1, EV.calling h.2.1, JX.calling h.2.2.1, va_K.moved (u := U) (U := U.calling g mk _) (Vm.Alike.refl U.vm) h.2.2.2.1, h.2.2.2.2⟩, fun U hU hW => ⟨rfl, EV.warm hW hE, by rw [hU]; exact JX.warm hW hJ, va_K.moved hW.alike hK, by rw [hU]; exact hI⟩⟩
theorem ofBL {l : Launch} {y : MethodName} {ws ws' : List Cond} {rm : Room} {Qc : Array Value → State → Outcome → State → Prop} {mc ms : Nat} {free : Addr → Prop} {cc : ByteArray} {maxL : Nat} {ret : Option FieldType} {hh : List (Nat × Nat × Nat × Nat)} {As : List Value} {G : eG} {cJ : ClassId} {I : Heap → Prop}
    (hy : plainName y.cls = true) (hw : ws = Cond.codeWith y cc maxL ret hh :: ws') (hn : (lg_sl As).length ≤ maxL)
    (body : ∀ (p : Program) (e : Env) (s : State) (m : MethodId) (below : List Frame) (meth : Method) (c : Code), p.tables.exec = Jvm.exec → c.code = cc → meth.sig.returnType = ret → meth.locks = false → c.maxLocals = maxL → s.vm.findClass y.cls = some m.cls → meth.name = y.name → (∀ w ∈ ws, w.before As.toArray s = true) → EV G s → JX s s.heap → va_K G.1 vwCl [(cJ, .long)] s → I s.heap → c.exceptionTable.toList = tableOf hh →
      ∀ ls : Array Slot, lv_has ls maxL (lv_args 0 As) → W p l e rm s m As.toArray below meth c s.heap [] 0 0 (MQ below Qc As.toArray s mc ms free) (F0 m 0 ls [])) : Met l y ws rm (PL As G cJ I) Qc mc ms free := by
  refine va_MetW hy hw ?_
  intro p e s m args below meth c s₁ B hml hv
  obtain ⟨rfl, hE, hJ, hK, hI⟩ := hv
  have hl := lv_entry As (n := maxL) hn
  rw [lg_entry_eq]
  exact body p e s m below meth c B.exec B.bytes B.returns B.notSynchronized hml (findClass_of_methodNamed B.named) (name_of_methodNamed B.named B.method).1 (atoms_spec (ws := ws) B.pre) hE hJ hK hI (vx_table (x := y) B (atoms_spec (ws := ws) B.pre _ (by rw [hw]; exact List.mem_cons_self))) _ hl
theorem xs_recv {G : eG} {fe : Nat} {f sf : Nat → Int32} {ff : Nat → Nat → Int32} {old sz len : Nat} {tx : Nat → Int32} {hsn : Int32} {W : va_W} {s : State} {H : Heap} {tys : List (ClassId × FieldType)} (hK : va_K G.1 vwCl tys s) (hX : XS G fe f sf ff old sz len tx hsn W) (hP : va_P G.1 vwCl W H) : ∃ cell : Cell, H[fe]? = some cell ∧ cell.vm.isStatics = false ∧ s.vm.findClass RX5 = some cell.cls := by
  obtain ⟨an, tn, sn, v0, v1, w, tf, tv0, tv1, tw, sv0, sv1, sw, ha, sv, ad, aa, vv0, vv1, ww, oa, co, rfl, hcp, hst, hcs, hcf, had⟩ := hX
  exact va_recv hK hP (ci := 5) (q0 := 0) rfl rfl
theorem rs_recv {G : eG} {ob : Nat} {f sf : Nat → Int32} {ff : Nat → Nat → Int32} {old sz len : Nat} {tx : Nat → Int32} {hsn thr : Int32} {M : va_W} {s : State} {H : Heap} {tys : List (ClassId × FieldType)} (hK : va_K G.1 vwCl tys s) (hM : RS G ob f sf ff old sz len tx hsn thr M) (hP : va_P G.1 vwCl M H) : ∃ cell : Cell, H[ob]? = some cell ∧ cell.vm.isStatics = false ∧ s.vm.findClass RX6 = some cell.cls := by
  obtain ⟨a1, a2, a3, a4, a5, th, pa, sn, spot, bad, lt, one, two, wh, hash, rfl, hsr, hpr⟩ := hM
  exact va_recv hK hP (ci := 6) (q0 := 0) rfl rfl

set_option maxHeartbeats 4000000 in
set_option maxRecDepth 100000 in
theorem CL_current_ok (l : Launch) (G : eG) (cJ : ClassId) {ou : Nat} {lo : Nat → Int64} {fe B : Nat} {f sf : Nat → Int32} {ff : Nat → Nat → Int32} {old sz len : Nat} {tx : Nat → Int32} {hsn : Int32} {WC : va_W} (hX : XS G fe f sf ff old sz len tx hsn WC) (hR : PR B f sf ff old sz len tx hsn) (hB : B < 700000000) (h : Nat) (q : Nat) (hh : h < 24) (hq : q ≤ 40) : Met l yL_current wsL_current ({ frames := 6, cells := 0, slots := 0, locals := 148 }) (PL [.ref fe, .int (nI h), .int (nI q), .ref ou] G cJ (fun H => va_P G.1 vwCl ([(ou, .inl (cJ, 1, .inr (.inl lo)))] ++ WC) H ∧ va_D (fun _ => True) ([(ou, .inl (cJ, 1, .inr (.inl lo)))] ++ WC))) (MV (some (.int (nI 0))) (fun H => ∃ W', XS G fe (upd f (3 + h) (nI q)) sf (rgS ff (hAt old sz) f) (hOld old sz) (svM sz) len tx hsn W' ∧ va_P G.1 vwCl ([(ou, .inl (cJ, 1, .inr (.inl (vp_updL lo 0 (((f (3 + h))).toInt64)))))] ++ W') H ∧ va_D (inW ([(ou, .inl (cJ, 1, .inr (.inl lo)))] ++ WC)) ([(ou, .inl (cJ, 1, .inr (.inl (vp_updL lo 0 (((f (3 + h))).toInt64)))))] ++ W')) (inW ([(ou, .inl (cJ, 1, .inr (.inl lo)))] ++ WC))) 0 0 (inW ([(ou, .inl (cJ, 1, .inr (.inl lo)))] ++ WC)) := by
  refine ofBL (cc := cL_current) (maxL := 5) (ret := some .int) (by decide) rfl (Nat.le_of_ble_eq_true rfl) ?_
  intro p e s m below meth c hx hb hr hlocks hml hown hin hts hE hJ hKJ hI htab ls hl
  replace hown : s.vm.findClass RL = some m.cls := hown
  have hl : lv_has ls 5 [(0, .ref fe), (1, .int (nI h)), (2, .int (nI q)), (3, .ref ou)] := hl
  obtain ⟨hP, hD0⟩ := hI
  have hD : va_D (inW ([(ou, .inl (cJ, 1, .inr (.inl lo)))] ++ WC)) ([(ou, .inl (cJ, 1, .inr (.inl lo)))] ++ WC) := D_self hD0
  obtain ⟨A, hAe⟩ : ∃ A, A = inW ([(ou, .inl (cJ, 1, .inr (.inl lo)))] ++ WC) := ⟨_, rfl⟩
  rw [← hAe] at hD ⊢
  have hS : va_S A s.heap s.heap [] := va_S.rf
  obtain ⟨H, hHe⟩ : ∃ H, H = s.heap := ⟨_, rfl⟩
  obtain ⟨locs, hle⟩ : ∃ q : List Loc, q = [] := ⟨_, rfl⟩
  rw [← hle] at hS ⊢
  have hP : va_P G.1 vwCl (WC ++ [(ou, .inl (cJ, 1, .inr (.inl lo)))]) H := by rw [hHe]; exact P_perm List.perm_append_comm hP
  replace hD : va_D A (WC ++ [(ou, .inl (cJ, 1, .inr (.inl lo)))]) := D_perm List.perm_append_comm hD
  replace hS : va_S A s.heap H locs := by rw [hHe]; exact hS
  replace hJ : JX s H := by rw [hHe]; exact hJ
  refine tH hHe ?_
  refine lv_aload_n hx hb dL_current_0 rfl (lv_at hl 3 rfl) ?_
  refine lv_iconst (v := nI 0) hx hb dL_current_1 (by decide +kernel) ?_
  refine lv_aload_n hx hb dL_current_2 rfl (lv_at hl 0 rfl) ?_
  refine lv_iload_n hx hb dL_current_3 rfl (lv_at hl 1 rfl) ?_
  refine lv_iload_n hx hb dL_current_4 rfl (lv_at hl 2 rfl) ?_
  have hPc := P_pre hP
  have hDc := D_pre hD
  refine mcall (st1 := [.int (f (3 + h)), .int (nI 0), .ref ou]) (va_runV (As := [.int (nI h), .int (nI q)]) (rest := [.int (nI 0), .ref ou]) ⟨hx, hb, hml, hown, hts⟩ (CX_current_ok l G hX hR hB h q hh hq) (cwV 2 hts gL_current_X5_current rfl rfl rfl (by decide +kernel) ⟨Nat.le_of_ble_eq_true rfl, Nat.le_of_ble_eq_true rfl⟩) (PJ.preV hE hJ (xs_recv hE.1 hX hPc) ⟨hPc, hDc.weaken (fun _ _ _ _ => trivial)⟩) rfl rfl hl.1 rfl (lv_room (Nat.le_of_ble_eq_true rfl)) dL_current_5 ⟨Nat.zero_le _, Nat.zero_le _⟩) hS (fun q _ h => inW_D hDc q h) (fun q h => inW_D hDc q h) rfl (fun H1 locs1 hB9 hz1 hk1 hS => ?_)
  obtain ⟨W', hX', hP1, hD1⟩ := hB9
  obtain ⟨hP, hD⟩ := jnF (w1 := W') hP hD hk1 hP1 hD1
  generalize H1 = H at hP hS ⊢
  replace hP : va_P G.1 vwCl ([(ou, .inl (cJ, 1, .inr (.inl lo)))] ++ W') H := P_perm List.perm_append_comm hP
  replace hD : va_D A ([(ou, .inl (cJ, 1, .inr (.inl lo)))] ++ W') := D_perm List.perm_append_comm hD
  refine lv_i2l (v := ((f (3 + h))).toInt64) hx hb dL_current_8 rfl ?_
  refine va_last hx hb hKJ hP hD hS 0 0 rfl rfl (vp_in_nI (n := 0) (N := 1) (by decide) (by decide)) dL_current_9 (fun H locs hP hD hS => ?_)
  rw [nI_clamp (by decide)] at hP hD
  refine lv_goto (tgt := 21) hx hb dL_current_10 (by decide) ?_
  refine lv_iconst (v := nI 0) hx hb dL_current_21 (by decide +kernel) ?_
  exact W.iret hx hb hr (fun t ht hW => ⟨rfl, by rw [ht]; exact ⟨W', hX', hP, hD⟩, hS.F ht⟩) hS.2.2 dL_current_22
set_option maxHeartbeats 4000000 in
set_option maxRecDepth 100000 in
theorem CL_current_e1 (l : Launch) (hlt : l.stackTraces = false) (G : eG) (cJ : ClassId) {ou : Nat} {fe B : Nat} {f sf : Nat → Int32} {ff : Nat → Nat → Int32} {old sz len : Nat} {tx : Nat → Int32} {hsn : Int32} {WC : va_W} (hX : XS G fe f sf ff old sz len tx hsn WC) (hR : PR B f sf ff old sz len tx hsn) (hB : B < 700000000) (p0 : Int32) (p1 : Int32) (hNo : ¬ (nI 0 ≤ p0 ∧ p0 ≤ nI 23)) : Met l yL_current wsL_current ({ frames := 7, cells := 1, slots := 6, locals := 105 }) (PL [.ref fe, .int p0, .int p1, .ref ou] G cJ (fun H => va_P G.1 vwCl WC H ∧ va_D (fun _ => True) WC)) (MV (some (.int (nI 1))) (fun _ => True) noA) 1 6 noA := by
  refine ofBL (cc := cL_current) (maxL := 5) (ret := some .int) (by decide) rfl (Nat.le_of_ble_eq_true rfl) ?_
  intro p e s m below meth c hx hb hr hlocks hml hown hin hts hE hJ hKJ hI htab ls hl
  replace hown : s.vm.findClass RL = some m.cls := hown
  have hl : lv_has ls 5 [(0, .ref fe), (1, .int p0), (2, .int p1), (3, .ref ou)] := hl
  obtain ⟨hP, hD0⟩ := hI
  have hRv := xs_recv hE.1 hX hP
  obtain ⟨an, tn, sn, v0, v1, w, tf, tv0, tv1, tw, sv0, sv1, sw, ha, sv, ad, aa, vv0, vv1, ww, oa, co, rfl, hcp, hst, hcs, hcf, had⟩ := hX
  obtain ⟨ho, hos, hof, hold, hz, htx, hk01⟩ := hR
  have hs := okf_shp (by omega) ho
  have hsS := okf_shp (by omega) hos
  have hrg : ∀ k, k < 6 → Shp (ff k) := fun k hk => okf_shp (by omega) (hof k hk)
  have heok := eR_ok htx
  have hrt := rR_le (nn tx) len
  have hS : va_S noA s.heap s.heap [] := va_S.rf
  refine lv_aload_n hx hb dL_current_0 rfl (lv_at hl 3 rfl) ?_
  refine lv_iconst (v := nI 0) hx hb dL_current_1 (by decide +kernel) ?_
  refine lv_aload_n hx hb dL_current_2 rfl (lv_at hl 0 rfl) ?_
  refine lv_iload_n hx hb dL_current_3 rfl (lv_at hl 1 rfl) ?_
  refine lv_iload_n hx hb dL_current_4 rfl (lv_at hl 2 rfl) ?_
  refine xcall (vx_runV (As := [.int p0, .int p1]) (rest := [.int (nI 0), .ref ou]) ⟨hx, hb, hml, hown, hts⟩ (c_X5_current_e1 l hlt G fe p0 p1 hNo) (cwV 2 hts gL_current_X5_current rfl rfl rfl (by decide +kernel) ⟨Nat.le_of_ble_eq_true rfl, Nat.le_of_ble_eq_true rfl⟩) (PJ.preV hE hJ hRv P_nil) rfl rfl hl.1 rfl (lv_room (Nat.le_of_ble_eq_true rfl)) dL_current_5 ⟨Nat.le_of_ble_eq_true rfl, Nat.le_of_ble_eq_true rfl⟩) hS (fun H locs xq ce hk hS hq hv hc => ?_)
  refine vx_catch hown [] (⟨0, 10, 13, 13⟩ : ExceptionTableEntry) [(⟨0, 10, 17, 15⟩ : ExceptionTableEntry)] (htab.trans rfl) (fun z hz => by cases hz) (by decide) (by decide) (hts (.classLink RL 13 "java/lang/IndexOutOfBoundsException") (by decide +kernel)) (va_Nw.use rfl (hJ.2.2.2.1 "java/lang/IndexOutOfBoundsException" (by decide))) hq hv hc ?_
  refine lv_astore (lv' := [(4, .ref xq), (0, .ref fe), (1, .int p0), (2, .int p1), (3, .ref ou)]) hx hb dL_current_13 hl (by decide) rfl (fun ls hl => ?_)
  refine lv_iconst (v := nI 1) hx hb dL_current_15 (by decide +kernel) ?_
  exact W.iret hx hb hr (fun t ht hW => ⟨rfl, trivial, hS.F ht⟩) hS.2.2 dL_current_16
set_option maxHeartbeats 4000000 in
set_option maxRecDepth 100000 in
theorem CL_current_e2 (l : Launch) (hlt : l.stackTraces = false) (G : eG) (cJ : ClassId) {ou : Nat} {fe B : Nat} {f sf : Nat → Int32} {ff : Nat → Nat → Int32} {old sz len : Nat} {tx : Nat → Int32} {hsn : Int32} {WC : va_W} (hX : XS G fe f sf ff old sz len tx hsn WC) (hR : PR B f sf ff old sz len tx hsn) (hB : B < 700000000) (p0 : Int32) (p1 : Int32) (h1 : nI 0 ≤ p0 ∧ p0 ≤ nI 23) (hNo : ¬ (nI 0 ≤ p1 ∧ p1 ≤ nI 40)) : Met l yL_current wsL_current ({ frames := 7, cells := 1, slots := 6, locals := 105 }) (PL [.ref fe, .int p0, .int p1, .ref ou] G cJ (fun H => va_P G.1 vwCl WC H ∧ va_D (fun _ => True) WC)) (MV (some (.int (nI 2))) (fun _ => True) noA) 1 6 noA := by
  refine ofBL (cc := cL_current) (maxL := 5) (ret := some .int) (by decide) rfl (Nat.le_of_ble_eq_true rfl) ?_
  intro p e s m below meth c hx hb hr hlocks hml hown hin hts hE hJ hKJ hI htab ls hl
  replace hown : s.vm.findClass RL = some m.cls := hown
  have hl : lv_has ls 5 [(0, .ref fe), (1, .int p0), (2, .int p1), (3, .ref ou)] := hl
  obtain ⟨hP, hD0⟩ := hI
  have hRv := xs_recv hE.1 hX hP
  obtain ⟨an, tn, sn, v0, v1, w, tf, tv0, tv1, tw, sv0, sv1, sw, ha, sv, ad, aa, vv0, vv1, ww, oa, co, rfl, hcp, hst, hcs, hcf, had⟩ := hX
  obtain ⟨ho, hos, hof, hold, hz, htx, hk01⟩ := hR
  have hs := okf_shp (by omega) ho
  have hsS := okf_shp (by omega) hos
  have hrg : ∀ k, k < 6 → Shp (ff k) := fun k hk => okf_shp (by omega) (hof k hk)
  have heok := eR_ok htx
  have hrt := rR_le (nn tx) len
  have hS : va_S noA s.heap s.heap [] := va_S.rf
  refine lv_aload_n hx hb dL_current_0 rfl (lv_at hl 3 rfl) ?_
  refine lv_iconst (v := nI 0) hx hb dL_current_1 (by decide +kernel) ?_
  refine lv_aload_n hx hb dL_current_2 rfl (lv_at hl 0 rfl) ?_
  refine lv_iload_n hx hb dL_current_3 rfl (lv_at hl 1 rfl) ?_
  refine lv_iload_n hx hb dL_current_4 rfl (lv_at hl 2 rfl) ?_
  refine xcall (vx_runV (As := [.int p0, .int p1]) (rest := [.int (nI 0), .ref ou]) ⟨hx, hb, hml, hown, hts⟩ (c_X5_current_e2 l hlt G fe p0 p1 h1 hNo) (cwV 2 hts gL_current_X5_current rfl rfl rfl (by decide +kernel) ⟨Nat.le_of_ble_eq_true rfl, Nat.le_of_ble_eq_true rfl⟩) (PJ.preV hE hJ hRv P_nil) rfl rfl hl.1 rfl (lv_room (Nat.le_of_ble_eq_true rfl)) dL_current_5 ⟨Nat.le_of_ble_eq_true rfl, Nat.le_of_ble_eq_true rfl⟩) hS (fun H locs xq ce hk hS hq hv hc => ?_)
  refine vx_catch hown [(⟨0, 10, 13, 13⟩ : ExceptionTableEntry)] (⟨0, 10, 17, 15⟩ : ExceptionTableEntry) [] (htab.trans rfl) (fun z hz => by
      simp only [List.mem_cons, List.not_mem_nil, or_false] at hz
      rcases hz with rfl
      · exact Or.inr ⟨by decide, "java/lang/IndexOutOfBoundsException", hts (.classLink RL 13 "java/lang/IndexOutOfBoundsException") (by decide +kernel), hJ.2.2.2.2.1.2.1⟩) (by decide) (by decide) (hts (.classLink RL 15 "java/lang/IllegalArgumentException") (by decide +kernel)) (va_Nw.use rfl (hJ.2.2.2.1 "java/lang/IllegalArgumentException" (by decide))) hq hv hc ?_
  refine lv_astore (lv' := [(4, .ref xq), (0, .ref fe), (1, .int p0), (2, .int p1), (3, .ref ou)]) hx hb dL_current_17 hl (by decide) rfl (fun ls hl => ?_)
  refine lv_iconst (v := nI 2) hx hb dL_current_19 (by decide +kernel) ?_
  exact W.iret hx hb hr (fun t ht hW => ⟨rfl, trivial, hS.F ht⟩) hS.2.2 dL_current_20
set_option maxHeartbeats 4000000 in
set_option maxRecDepth 100000 in
theorem CL_arrive_ok (l : Launch) (G : eG) (cJ : ClassId) {ou : Nat} {lo : Nat → Int64} {fe B : Nat} {f sf : Nat → Int32} {ff : Nat → Nat → Int32} {old sz len : Nat} {tx : Nat → Int32} {hsn : Int32} {WC : va_W} (hX : XS G fe f sf ff old sz len tx hsn WC) (hR : PR B f sf ff old sz len tx hsn) (hB : B < 700000000) (b : Nat) (y : Nat) (hb2 : b < 2) (hy1 : 1 ≤ y) (hy : y ≤ 20) (hq : nn f (57 + 11 * b) < 10) : Met l yL_arrive wsL_arrive ({ frames := 6, cells := 0, slots := 0, locals := 147 }) (PL [.ref fe, .int (nI b), .int (nI y), .ref ou] G cJ (fun H => va_P G.1 vwCl ([(ou, .inl (cJ, 1, .inr (.inl lo)))] ++ WC) H ∧ va_D (fun _ => True) ([(ou, .inl (cJ, 1, .inr (.inl lo)))] ++ WC))) (MV (some (.int (nI 0))) (fun H => ∃ W', XS G fe (fArr f b (nI y)) sf (rgS ff (hAt old sz) f) (hOld old sz) (svM sz) len tx hsn W' ∧ va_P G.1 vwCl ([(ou, .inl (cJ, 1, .inr (.inl (vp_updL lo 0 (((f (57 + (11 * b)) + nI 1)).toInt64)))))] ++ W') H ∧ va_D (inW ([(ou, .inl (cJ, 1, .inr (.inl lo)))] ++ WC)) ([(ou, .inl (cJ, 1, .inr (.inl (vp_updL lo 0 (((f (57 + (11 * b)) + nI 1)).toInt64)))))] ++ W')) (inW ([(ou, .inl (cJ, 1, .inr (.inl lo)))] ++ WC))) 0 0 (inW ([(ou, .inl (cJ, 1, .inr (.inl lo)))] ++ WC)) := by
  refine ofBL (cc := cL_arrive) (maxL := 5) (ret := some .int) (by decide) rfl (Nat.le_of_ble_eq_true rfl) ?_
  intro p e s m below meth c hx hb hr hlocks hml hown hin hts hE hJ hKJ hI htab ls hl
  replace hown : s.vm.findClass RL = some m.cls := hown
  have hl : lv_has ls 5 [(0, .ref fe), (1, .int (nI b)), (2, .int (nI y)), (3, .ref ou)] := hl
  obtain ⟨hP, hD0⟩ := hI
  have hD : va_D (inW ([(ou, .inl (cJ, 1, .inr (.inl lo)))] ++ WC)) ([(ou, .inl (cJ, 1, .inr (.inl lo)))] ++ WC) := D_self hD0
  obtain ⟨A, hAe⟩ : ∃ A, A = inW ([(ou, .inl (cJ, 1, .inr (.inl lo)))] ++ WC) := ⟨_, rfl⟩
  rw [← hAe] at hD ⊢
  have hS : va_S A s.heap s.heap [] := va_S.rf
  obtain ⟨H, hHe⟩ : ∃ H, H = s.heap := ⟨_, rfl⟩
  obtain ⟨locs, hle⟩ : ∃ q : List Loc, q = [] := ⟨_, rfl⟩
  rw [← hle] at hS ⊢
  have hP : va_P G.1 vwCl (WC ++ [(ou, .inl (cJ, 1, .inr (.inl lo)))]) H := by rw [hHe]; exact P_perm List.perm_append_comm hP
  replace hD : va_D A (WC ++ [(ou, .inl (cJ, 1, .inr (.inl lo)))]) := D_perm List.perm_append_comm hD
  replace hS : va_S A s.heap H locs := by rw [hHe]; exact hS
  replace hJ : JX s H := by rw [hHe]; exact hJ
  refine tH hHe ?_
  refine lv_aload_n hx hb dL_arrive_0 rfl (lv_at hl 3 rfl) ?_
  refine lv_iconst (v := nI 0) hx hb dL_arrive_1 (by decide +kernel) ?_
  refine lv_aload_n hx hb dL_arrive_2 rfl (lv_at hl 0 rfl) ?_
  refine lv_iload_n hx hb dL_arrive_3 rfl (lv_at hl 1 rfl) ?_
  refine lv_iload_n hx hb dL_arrive_4 rfl (lv_at hl 2 rfl) ?_
  have hPc := P_pre hP
  have hDc := D_pre hD
  refine mcall (st1 := [.int (f (57 + (11 * b)) + nI 1), .int (nI 0), .ref ou]) (va_runV (As := [.int (nI b), .int (nI y)]) (rest := [.int (nI 0), .ref ou]) ⟨hx, hb, hml, hown, hts⟩ (CX_arrive_ok l G hX hR hB b y hb2 hy1 hy hq) (cwV 2 hts gL_arrive_X5_arrive rfl rfl rfl (by decide +kernel) ⟨Nat.le_of_ble_eq_true rfl, Nat.le_of_ble_eq_true rfl⟩) (PJ.preV hE hJ (xs_recv hE.1 hX hPc) ⟨hPc, hDc.weaken (fun _ _ _ _ => trivial)⟩) rfl rfl hl.1 rfl (lv_room (Nat.le_of_ble_eq_true rfl)) dL_arrive_5 ⟨Nat.zero_le _, Nat.zero_le _⟩) hS (fun q _ h => inW_D hDc q h) (fun q h => inW_D hDc q h) rfl (fun H1 locs1 hB9 hz1 hk1 hS => ?_)
  obtain ⟨W', hX', hP1, hD1⟩ := hB9
  obtain ⟨hP, hD⟩ := jnF (w1 := W') hP hD hk1 hP1 hD1
  generalize H1 = H at hP hS ⊢
  replace hP : va_P G.1 vwCl ([(ou, .inl (cJ, 1, .inr (.inl lo)))] ++ W') H := P_perm List.perm_append_comm hP
  replace hD : va_D A ([(ou, .inl (cJ, 1, .inr (.inl lo)))] ++ W') := D_perm List.perm_append_comm hD
  refine lv_i2l (v := ((f (57 + (11 * b)) + nI 1)).toInt64) hx hb dL_arrive_8 rfl ?_
  refine va_last hx hb hKJ hP hD hS 0 0 rfl rfl (vp_in_nI (n := 0) (N := 1) (by decide) (by decide)) dL_arrive_9 (fun H locs hP hD hS => ?_)
  rw [nI_clamp (by decide)] at hP hD
  refine lv_goto (tgt := 25) hx hb dL_arrive_10 (by decide) ?_
  refine lv_iconst (v := nI 0) hx hb dL_arrive_25 (by decide +kernel) ?_
  exact W.iret hx hb hr (fun t ht hW => ⟨rfl, by rw [ht]; exact ⟨W', hX', hP, hD⟩, hS.F ht⟩) hS.2.2 dL_arrive_26
set_option maxHeartbeats 4000000 in
set_option maxRecDepth 100000 in
theorem CL_arrive_e1 (l : Launch) (hlt : l.stackTraces = false) (G : eG) (cJ : ClassId) {ou : Nat} {fe B : Nat} {f sf : Nat → Int32} {ff : Nat → Nat → Int32} {old sz len : Nat} {tx : Nat → Int32} {hsn : Int32} {WC : va_W} (hX : XS G fe f sf ff old sz len tx hsn WC) (hR : PR B f sf ff old sz len tx hsn) (hB : B < 700000000) (p0 : Int32) (p1 : Int32) (hNo : ¬ (nI 0 ≤ p0 ∧ p0 ≤ nI 1)) : Met l yL_arrive wsL_arrive ({ frames := 7, cells := 1, slots := 6, locals := 104 }) (PL [.ref fe, .int p0, .int p1, .ref ou] G cJ (fun H => va_P G.1 vwCl WC H ∧ va_D (fun _ => True) WC)) (MV (some (.int (nI 1))) (fun _ => True) noA) 1 6 noA := by
  refine ofBL (cc := cL_arrive) (maxL := 5) (ret := some .int) (by decide) rfl (Nat.le_of_ble_eq_true rfl) ?_
  intro p e s m below meth c hx hb hr hlocks hml hown hin hts hE hJ hKJ hI htab ls hl
  replace hown : s.vm.findClass RL = some m.cls := hown
  have hl : lv_has ls 5 [(0, .ref fe), (1, .int p0), (2, .int p1), (3, .ref ou)] := hl
  obtain ⟨hP, hD0⟩ := hI
  have hRv := xs_recv hE.1 hX hP
  obtain ⟨an, tn, sn, v0, v1, w, tf, tv0, tv1, tw, sv0, sv1, sw, ha, sv, ad, aa, vv0, vv1, ww, oa, co, rfl, hcp, hst, hcs, hcf, had⟩ := hX
  obtain ⟨ho, hos, hof, hold, hz, htx, hk01⟩ := hR
  have hs := okf_shp (by omega) ho
  have hsS := okf_shp (by omega) hos
  have hrg : ∀ k, k < 6 → Shp (ff k) := fun k hk => okf_shp (by omega) (hof k hk)
  have heok := eR_ok htx
  have hrt := rR_le (nn tx) len
  have hS : va_S noA s.heap s.heap [] := va_S.rf
  refine lv_aload_n hx hb dL_arrive_0 rfl (lv_at hl 3 rfl) ?_
  refine lv_iconst (v := nI 0) hx hb dL_arrive_1 (by decide +kernel) ?_
  refine lv_aload_n hx hb dL_arrive_2 rfl (lv_at hl 0 rfl) ?_
  refine lv_iload_n hx hb dL_arrive_3 rfl (lv_at hl 1 rfl) ?_
  refine lv_iload_n hx hb dL_arrive_4 rfl (lv_at hl 2 rfl) ?_
  refine xcall (vx_runV (As := [.int p0, .int p1]) (rest := [.int (nI 0), .ref ou]) ⟨hx, hb, hml, hown, hts⟩ (c_X5_arrive_e1 l hlt G fe p0 p1 hNo) (cwV 2 hts gL_arrive_X5_arrive rfl rfl rfl (by decide +kernel) ⟨Nat.le_of_ble_eq_true rfl, Nat.le_of_ble_eq_true rfl⟩) (PJ.preV hE hJ hRv P_nil) rfl rfl hl.1 rfl (lv_room (Nat.le_of_ble_eq_true rfl)) dL_arrive_5 ⟨Nat.le_of_ble_eq_true rfl, Nat.le_of_ble_eq_true rfl⟩) hS (fun H locs xq ce hk hS hq hv hc => ?_)
  refine vx_catch hown [] (⟨0, 10, 13, 13⟩ : ExceptionTableEntry) [(⟨0, 10, 17, 15⟩ : ExceptionTableEntry), (⟨0, 10, 21, 20⟩ : ExceptionTableEntry)] (htab.trans rfl) (fun z hz => by cases hz) (by decide) (by decide) (hts (.classLink RL 13 "java/lang/IndexOutOfBoundsException") (by decide +kernel)) (va_Nw.use rfl (hJ.2.2.2.1 "java/lang/IndexOutOfBoundsException" (by decide))) hq hv hc ?_
  refine lv_astore (lv' := [(4, .ref xq), (0, .ref fe), (1, .int p0), (2, .int p1), (3, .ref ou)]) hx hb dL_arrive_13 hl (by decide) rfl (fun ls hl => ?_)
  refine lv_iconst (v := nI 1) hx hb dL_arrive_15 (by decide +kernel) ?_
  exact W.iret hx hb hr (fun t ht hW => ⟨rfl, trivial, hS.F ht⟩) hS.2.2 dL_arrive_16
set_option maxHeartbeats 4000000 in
set_option maxRecDepth 100000 in
theorem CL_arrive_e2 (l : Launch) (hlt : l.stackTraces = false) (G : eG) (cJ : ClassId) {ou : Nat} {fe B : Nat} {f sf : Nat → Int32} {ff : Nat → Nat → Int32} {old sz len : Nat} {tx : Nat → Int32} {hsn : Int32} {WC : va_W} (hX : XS G fe f sf ff old sz len tx hsn WC) (hR : PR B f sf ff old sz len tx hsn) (hB : B < 700000000) (p0 : Int32) (p1 : Int32) (h1 : nI 0 ≤ p0 ∧ p0 ≤ nI 1) (hNo : ¬ (nI 1 ≤ p1 ∧ p1 ≤ nI 20)) : Met l yL_arrive wsL_arrive ({ frames := 7, cells := 1, slots := 6, locals := 104 }) (PL [.ref fe, .int p0, .int p1, .ref ou] G cJ (fun H => va_P G.1 vwCl WC H ∧ va_D (fun _ => True) WC)) (MV (some (.int (nI 2))) (fun _ => True) noA) 1 6 noA := by
  refine ofBL (cc := cL_arrive) (maxL := 5) (ret := some .int) (by decide) rfl (Nat.le_of_ble_eq_true rfl) ?_
  intro p e s m below meth c hx hb hr hlocks hml hown hin hts hE hJ hKJ hI htab ls hl
  replace hown : s.vm.findClass RL = some m.cls := hown
  have hl : lv_has ls 5 [(0, .ref fe), (1, .int p0), (2, .int p1), (3, .ref ou)] := hl
  obtain ⟨hP, hD0⟩ := hI
  have hRv := xs_recv hE.1 hX hP
  obtain ⟨an, tn, sn, v0, v1, w, tf, tv0, tv1, tw, sv0, sv1, sw, ha, sv, ad, aa, vv0, vv1, ww, oa, co, rfl, hcp, hst, hcs, hcf, had⟩ := hX
  obtain ⟨ho, hos, hof, hold, hz, htx, hk01⟩ := hR
  have hs := okf_shp (by omega) ho
  have hsS := okf_shp (by omega) hos
  have hrg : ∀ k, k < 6 → Shp (ff k) := fun k hk => okf_shp (by omega) (hof k hk)
  have heok := eR_ok htx
  have hrt := rR_le (nn tx) len
  have hS : va_S noA s.heap s.heap [] := va_S.rf
  refine lv_aload_n hx hb dL_arrive_0 rfl (lv_at hl 3 rfl) ?_
  refine lv_iconst (v := nI 0) hx hb dL_arrive_1 (by decide +kernel) ?_
  refine lv_aload_n hx hb dL_arrive_2 rfl (lv_at hl 0 rfl) ?_
  refine lv_iload_n hx hb dL_arrive_3 rfl (lv_at hl 1 rfl) ?_
  refine lv_iload_n hx hb dL_arrive_4 rfl (lv_at hl 2 rfl) ?_
  refine xcall (vx_runV (As := [.int p0, .int p1]) (rest := [.int (nI 0), .ref ou]) ⟨hx, hb, hml, hown, hts⟩ (c_X5_arrive_e2 l hlt G fe p0 p1 h1 hNo) (cwV 2 hts gL_arrive_X5_arrive rfl rfl rfl (by decide +kernel) ⟨Nat.le_of_ble_eq_true rfl, Nat.le_of_ble_eq_true rfl⟩) (PJ.preV hE hJ hRv P_nil) rfl rfl hl.1 rfl (lv_room (Nat.le_of_ble_eq_true rfl)) dL_arrive_5 ⟨Nat.le_of_ble_eq_true rfl, Nat.le_of_ble_eq_true rfl⟩) hS (fun H locs xq ce hk hS hq hv hc => ?_)
  refine vx_catch hown [(⟨0, 10, 13, 13⟩ : ExceptionTableEntry)] (⟨0, 10, 17, 15⟩ : ExceptionTableEntry) [(⟨0, 10, 21, 20⟩ : ExceptionTableEntry)] (htab.trans rfl) (fun z hz => by
      simp only [List.mem_cons, List.not_mem_nil, or_false] at hz
      rcases hz with rfl
      · exact Or.inr ⟨by decide, "java/lang/IndexOutOfBoundsException", hts (.classLink RL 13 "java/lang/IndexOutOfBoundsException") (by decide +kernel), hJ.2.2.2.2.1.2.1⟩) (by decide) (by decide) (hts (.classLink RL 15 "java/lang/IllegalArgumentException") (by decide +kernel)) (va_Nw.use rfl (hJ.2.2.2.1 "java/lang/IllegalArgumentException" (by decide))) hq hv hc ?_
  refine lv_astore (lv' := [(4, .ref xq), (0, .ref fe), (1, .int p0), (2, .int p1), (3, .ref ou)]) hx hb dL_arrive_17 hl (by decide) rfl (fun ls hl => ?_)
  refine lv_iconst (v := nI 2) hx hb dL_arrive_19 (by decide +kernel) ?_
  exact W.iret hx hb hr (fun t ht hW => ⟨rfl, trivial, hS.F ht⟩) hS.2.2 dL_arrive_20
set_option maxHeartbeats 4000000 in
set_option maxRecDepth 100000 in
theorem CL_arrive_e3 (l : Launch) (hlt : l.stackTraces = false) (G : eG) (cJ : ClassId) {ou : Nat} {fe B : Nat} {f sf : Nat → Int32} {ff : Nat → Nat → Int32} {old sz len : Nat} {tx : Nat → Int32} {hsn : Int32} {WC : va_W} (hX : XS G fe f sf ff old sz len tx hsn WC) (hR : PR B f sf ff old sz len tx hsn) (hB : B < 700000000) (b : Nat) (y : Nat) (hb2 : b < 2) (hy1 : 1 ≤ y) (hy : y ≤ 20) (hq : ¬ nn f (57 + 11 * b) < 10) : Met l yL_arrive wsL_arrive ({ frames := 7, cells := 1, slots := 6, locals := 104 }) (PL [.ref fe, .int (nI b), .int (nI y), .ref ou] G cJ (fun H => va_P G.1 vwCl WC H ∧ va_D (fun _ => True) WC)) (MV (some (.int (nI 3))) (fun _ => True) noA) 1 6 noA := by
  refine ofBL (cc := cL_arrive) (maxL := 5) (ret := some .int) (by decide) rfl (Nat.le_of_ble_eq_true rfl) ?_
  intro p e s m below meth c hx hb hr hlocks hml hown hin hts hE hJ hKJ hI htab ls hl
  replace hown : s.vm.findClass RL = some m.cls := hown
  have hl : lv_has ls 5 [(0, .ref fe), (1, .int (nI b)), (2, .int (nI y)), (3, .ref ou)] := hl
  obtain ⟨hP, hD0⟩ := hI
  have hRv := xs_recv hE.1 hX hP
  obtain ⟨an, tn, sn, v0, v1, w, tf, tv0, tv1, tw, sv0, sv1, sw, ha, sv, ad, aa, vv0, vv1, ww, oa, co, rfl, hcp, hst, hcs, hcf, had⟩ := hX
  obtain ⟨ho, hos, hof, hold, hz, htx, hk01⟩ := hR
  have hs := okf_shp (by omega) ho
  have hsS := okf_shp (by omega) hos
  have hrg : ∀ k, k < 6 → Shp (ff k) := fun k hk => okf_shp (by omega) (hof k hk)
  have heok := eR_ok htx
  have hrt := rR_le (nn tx) len
  have hS : va_S noA s.heap s.heap [] := va_S.rf
  refine lv_aload_n hx hb dL_arrive_0 rfl (lv_at hl 3 rfl) ?_
  refine lv_iconst (v := nI 0) hx hb dL_arrive_1 (by decide +kernel) ?_
  refine lv_aload_n hx hb dL_arrive_2 rfl (lv_at hl 0 rfl) ?_
  refine lv_iload_n hx hb dL_arrive_3 rfl (lv_at hl 1 rfl) ?_
  refine lv_iload_n hx hb dL_arrive_4 rfl (lv_at hl 2 rfl) ?_
  refine xcall (vx_runV (As := [.int (nI b), .int (nI y)]) (rest := [.int (nI 0), .ref ou]) ⟨hx, hb, hml, hown, hts⟩ (c_X5_arrive_e3 l hlt G fe (tn 0) (sn 0) ha oa hsn an f v0 v1 w hs b y hb2 hy1 hy hq) (cwV 2 hts gL_arrive_X5_arrive rfl rfl rfl (by decide +kernel) ⟨Nat.le_of_ble_eq_true rfl, Nat.le_of_ble_eq_true rfl⟩) (PJ.preV hE hJ hRv (P_pre (P_perm pm_FN hP))) rfl rfl hl.1 rfl (lv_room (Nat.le_of_ble_eq_true rfl)) dL_arrive_5 ⟨Nat.le_of_ble_eq_true rfl, Nat.le_of_ble_eq_true rfl⟩) hS (fun H locs xq ce hk hS hq hv hc => ?_)
  refine vx_catch hown [(⟨0, 10, 13, 13⟩ : ExceptionTableEntry), (⟨0, 10, 17, 15⟩ : ExceptionTableEntry)] (⟨0, 10, 21, 20⟩ : ExceptionTableEntry) [] (htab.trans rfl) (fun z hz => by
      simp only [List.mem_cons, List.not_mem_nil, or_false] at hz
      rcases hz with rfl | rfl
      · exact Or.inr ⟨by decide, "java/lang/IndexOutOfBoundsException", hts (.classLink RL 13 "java/lang/IndexOutOfBoundsException") (by decide +kernel), hJ.2.2.2.2.1.2.2.1⟩
      · exact Or.inr ⟨by decide, "java/lang/IllegalArgumentException", hts (.classLink RL 15 "java/lang/IllegalArgumentException") (by decide +kernel), hJ.2.2.2.2.1.2.2.2⟩) (by decide) (by decide) (hts (.classLink RL 20 "java/lang/IllegalStateException") (by decide +kernel)) (va_Nw.use rfl (hJ.2.2.2.1 "java/lang/IllegalStateException" (by decide))) hq hv hc ?_
  refine lv_astore (lv' := [(4, .ref xq), (0, .ref fe), (1, .int (nI b)), (2, .int (nI y)), (3, .ref ou)]) hx hb dL_arrive_21 hl (by decide) rfl (fun ls hl => ?_)
  refine lv_iconst (v := nI 3) hx hb dL_arrive_23 (by decide +kernel) ?_
  exact W.iret hx hb hr (fun t ht hW => ⟨rfl, trivial, hS.F ht⟩) hS.2.2 dL_arrive_24
set_option maxHeartbeats 4000000 in
set_option maxRecDepth 100000 in
theorem CL_load_ok (l : Launch) (G : eG) (cJ : ClassId) {ou : Nat} {lo : Nat → Int64} {fe B : Nat} {f sf : Nat → Int32} {ff : Nat → Nat → Int32} {old sz len : Nat} {tx : Nat → Int32} {hsn : Int32} {WC : va_W} (hX : XS G fe f sf ff old sz len tx hsn WC) (hR : PR B f sf ff old sz len tx hsn) (hB : B < 700000000) (q : Nat) (hq : q < 2) (hcan : fCan f q = true) : Met l yL_load wsL_load ({ frames := 6, cells := 0, slots := 0, locals := 146 }) (PL [.ref fe, .int (nI q), .ref ou] G cJ (fun H => va_P G.1 vwCl ([(ou, .inl (cJ, 1, .inr (.inl lo)))] ++ WC) H ∧ va_D (fun _ => True) ([(ou, .inl (cJ, 1, .inr (.inl lo)))] ++ WC))) (MV (some (.int (nI 0))) (fun H => ∃ W', XS G fe (fLod f q) sf (rgS ff (hAt old sz) f) (hOld old sz) (svM sz) len tx hsn W' ∧ va_P G.1 vwCl ([(ou, .inl (cJ, 1, .inr (.inl (vp_updL lo 0 (((f (fAt f + 1))).toInt64)))))] ++ W') H ∧ va_D (inW ([(ou, .inl (cJ, 1, .inr (.inl lo)))] ++ WC)) ([(ou, .inl (cJ, 1, .inr (.inl (vp_updL lo 0 (((f (fAt f + 1))).toInt64)))))] ++ W')) (inW ([(ou, .inl (cJ, 1, .inr (.inl lo)))] ++ WC))) 0 0 (inW ([(ou, .inl (cJ, 1, .inr (.inl lo)))] ++ WC)) := by
  refine ofBL (cc := cL_load) (maxL := 4) (ret := some .int) (by decide) rfl (Nat.le_of_ble_eq_true rfl) ?_
  intro p e s m below meth c hx hb hr hlocks hml hown hin hts hE hJ hKJ hI htab ls hl
  replace hown : s.vm.findClass RL = some m.cls := hown
  have hl : lv_has ls 4 [(0, .ref fe), (1, .int (nI q)), (2, .ref ou)] := hl
  obtain ⟨hP, hD0⟩ := hI
  have hD : va_D (inW ([(ou, .inl (cJ, 1, .inr (.inl lo)))] ++ WC)) ([(ou, .inl (cJ, 1, .inr (.inl lo)))] ++ WC) := D_self hD0
  obtain ⟨A, hAe⟩ : ∃ A, A = inW ([(ou, .inl (cJ, 1, .inr (.inl lo)))] ++ WC) := ⟨_, rfl⟩
  rw [← hAe] at hD ⊢
  have hS : va_S A s.heap s.heap [] := va_S.rf
  obtain ⟨H, hHe⟩ : ∃ H, H = s.heap := ⟨_, rfl⟩
  obtain ⟨locs, hle⟩ : ∃ q : List Loc, q = [] := ⟨_, rfl⟩
  rw [← hle] at hS ⊢
  have hP : va_P G.1 vwCl (WC ++ [(ou, .inl (cJ, 1, .inr (.inl lo)))]) H := by rw [hHe]; exact P_perm List.perm_append_comm hP
  replace hD : va_D A (WC ++ [(ou, .inl (cJ, 1, .inr (.inl lo)))]) := D_perm List.perm_append_comm hD
  replace hS : va_S A s.heap H locs := by rw [hHe]; exact hS
  replace hJ : JX s H := by rw [hHe]; exact hJ
  refine tH hHe ?_
  refine lv_aload_n hx hb dL_load_0 rfl (lv_at hl 2 rfl) ?_
  refine lv_iconst (v := nI 0) hx hb dL_load_1 (by decide +kernel) ?_
  refine lv_aload_n hx hb dL_load_2 rfl (lv_at hl 0 rfl) ?_
  refine lv_iload_n hx hb dL_load_3 rfl (lv_at hl 1 rfl) ?_
  have hPc := P_pre hP
  have hDc := D_pre hD
  refine mcall (st1 := [.int (f (fAt f + 1)), .int (nI 0), .ref ou]) (va_runV (As := [.int (nI q)]) (rest := [.int (nI 0), .ref ou]) ⟨hx, hb, hml, hown, hts⟩ (CX_load_ok l G hX hR hB q hq hcan) (cwV 1 hts gL_load_X5_load rfl rfl rfl (by decide +kernel) ⟨Nat.le_of_ble_eq_true rfl, Nat.le_of_ble_eq_true rfl⟩) (PJ.preV hE hJ (xs_recv hE.1 hX hPc) ⟨hPc, hDc.weaken (fun _ _ _ _ => trivial)⟩) rfl rfl hl.1 rfl (lv_room (Nat.le_of_ble_eq_true rfl)) dL_load_4 ⟨Nat.zero_le _, Nat.zero_le _⟩) hS (fun q _ h => inW_D hDc q h) (fun q h => inW_D hDc q h) rfl (fun H1 locs1 hB9 hz1 hk1 hS => ?_)
  obtain ⟨W', hX', hP1, hD1⟩ := hB9
  obtain ⟨hP, hD⟩ := jnF (w1 := W') hP hD hk1 hP1 hD1
  generalize H1 = H at hP hS ⊢
  replace hP : va_P G.1 vwCl ([(ou, .inl (cJ, 1, .inr (.inl lo)))] ++ W') H := P_perm List.perm_append_comm hP
  replace hD : va_D A ([(ou, .inl (cJ, 1, .inr (.inl lo)))] ++ W') := D_perm List.perm_append_comm hD
  refine lv_i2l (v := ((f (fAt f + 1))).toInt64) hx hb dL_load_7 rfl ?_
  refine va_last hx hb hKJ hP hD hS 0 0 rfl rfl (vp_in_nI (n := 0) (N := 1) (by decide) (by decide)) dL_load_8 (fun H locs hP hD hS => ?_)
  rw [nI_clamp (by decide)] at hP hD
  refine lv_goto (tgt := 18) hx hb dL_load_9 (by decide) ?_
  refine lv_iconst (v := nI 0) hx hb dL_load_18 (by decide +kernel) ?_
  exact W.iret hx hb hr (fun t ht hW => ⟨rfl, by rw [ht]; exact ⟨W', hX', hP, hD⟩, hS.F ht⟩) hS.2.2 dL_load_19
set_option maxHeartbeats 4000000 in
set_option maxRecDepth 100000 in
theorem CL_load_e1 (l : Launch) (hlt : l.stackTraces = false) (G : eG) (cJ : ClassId) {ou : Nat} {fe B : Nat} {f sf : Nat → Int32} {ff : Nat → Nat → Int32} {old sz len : Nat} {tx : Nat → Int32} {hsn : Int32} {WC : va_W} (hX : XS G fe f sf ff old sz len tx hsn WC) (hR : PR B f sf ff old sz len tx hsn) (hB : B < 700000000) (p0 : Int32) (hNo : ¬ (nI 0 ≤ p0 ∧ p0 ≤ nI 1)) : Met l yL_load wsL_load ({ frames := 7, cells := 1, slots := 6, locals := 103 }) (PL [.ref fe, .int p0, .ref ou] G cJ (fun H => va_P G.1 vwCl WC H ∧ va_D (fun _ => True) WC)) (MV (some (.int (nI 1))) (fun _ => True) noA) 1 6 noA := by
  refine ofBL (cc := cL_load) (maxL := 4) (ret := some .int) (by decide) rfl (Nat.le_of_ble_eq_true rfl) ?_
  intro p e s m below meth c hx hb hr hlocks hml hown hin hts hE hJ hKJ hI htab ls hl
  replace hown : s.vm.findClass RL = some m.cls := hown
  have hl : lv_has ls 4 [(0, .ref fe), (1, .int p0), (2, .ref ou)] := hl
  obtain ⟨hP, hD0⟩ := hI
  have hRv := xs_recv hE.1 hX hP
  obtain ⟨an, tn, sn, v0, v1, w, tf, tv0, tv1, tw, sv0, sv1, sw, ha, sv, ad, aa, vv0, vv1, ww, oa, co, rfl, hcp, hst, hcs, hcf, had⟩ := hX
  obtain ⟨ho, hos, hof, hold, hz, htx, hk01⟩ := hR
  have hs := okf_shp (by omega) ho
  have hsS := okf_shp (by omega) hos
  have hrg : ∀ k, k < 6 → Shp (ff k) := fun k hk => okf_shp (by omega) (hof k hk)
  have heok := eR_ok htx
  have hrt := rR_le (nn tx) len
  have hS : va_S noA s.heap s.heap [] := va_S.rf
  refine lv_aload_n hx hb dL_load_0 rfl (lv_at hl 2 rfl) ?_
  refine lv_iconst (v := nI 0) hx hb dL_load_1 (by decide +kernel) ?_
  refine lv_aload_n hx hb dL_load_2 rfl (lv_at hl 0 rfl) ?_
  refine lv_iload_n hx hb dL_load_3 rfl (lv_at hl 1 rfl) ?_
  refine xcall (vx_runV (As := [.int p0]) (rest := [.int (nI 0), .ref ou]) ⟨hx, hb, hml, hown, hts⟩ (c_X5_load_e1 l hlt G fe p0 hNo) (cwV 1 hts gL_load_X5_load rfl rfl rfl (by decide +kernel) ⟨Nat.le_of_ble_eq_true rfl, Nat.le_of_ble_eq_true rfl⟩) (PJ.preV hE hJ hRv P_nil) rfl rfl hl.1 rfl (lv_room (Nat.le_of_ble_eq_true rfl)) dL_load_4 ⟨Nat.le_of_ble_eq_true rfl, Nat.le_of_ble_eq_true rfl⟩) hS (fun H locs xq ce hk hS hq hv hc => ?_)
  refine vx_catch hown [] (⟨0, 9, 12, 13⟩ : ExceptionTableEntry) [(⟨0, 9, 15, 20⟩ : ExceptionTableEntry)] (htab.trans rfl) (fun z hz => by cases hz) (by decide) (by decide) (hts (.classLink RL 13 "java/lang/IndexOutOfBoundsException") (by decide +kernel)) (va_Nw.use rfl (hJ.2.2.2.1 "java/lang/IndexOutOfBoundsException" (by decide))) hq hv hc ?_
  refine lv_astore_n (lv' := [(3, .ref xq), (0, .ref fe), (1, .int p0), (2, .ref ou)]) hx hb dL_load_12 rfl hl (by decide) rfl (fun ls hl => ?_)
  refine lv_iconst (v := nI 1) hx hb dL_load_13 (by decide +kernel) ?_
  exact W.iret hx hb hr (fun t ht hW => ⟨rfl, trivial, hS.F ht⟩) hS.2.2 dL_load_14
set_option maxHeartbeats 4000000 in
set_option maxRecDepth 100000 in
theorem CL_load_e2 (l : Launch) (hlt : l.stackTraces = false) (G : eG) (cJ : ClassId) {ou : Nat} {fe B : Nat} {f sf : Nat → Int32} {ff : Nat → Nat → Int32} {old sz len : Nat} {tx : Nat → Int32} {hsn : Int32} {WC : va_W} (hX : XS G fe f sf ff old sz len tx hsn WC) (hR : PR B f sf ff old sz len tx hsn) (hB : B < 700000000) (q : Nat) (hq : q < 2) (hcan : ¬ fCan f q = true) : Met l yL_load wsL_load ({ frames := 7, cells := 1, slots := 6, locals := 103 }) (PL [.ref fe, .int (nI q), .ref ou] G cJ (fun H => va_P G.1 vwCl WC H ∧ va_D (fun _ => True) WC)) (MV (some (.int (nI 2))) (fun _ => True) noA) 1 6 noA := by
  refine ofBL (cc := cL_load) (maxL := 4) (ret := some .int) (by decide) rfl (Nat.le_of_ble_eq_true rfl) ?_
  intro p e s m below meth c hx hb hr hlocks hml hown hin hts hE hJ hKJ hI htab ls hl
  replace hown : s.vm.findClass RL = some m.cls := hown
  have hl : lv_has ls 4 [(0, .ref fe), (1, .int (nI q)), (2, .ref ou)] := hl
  obtain ⟨hP, hD0⟩ := hI
  have hRv := xs_recv hE.1 hX hP
  obtain ⟨an, tn, sn, v0, v1, w, tf, tv0, tv1, tw, sv0, sv1, sw, ha, sv, ad, aa, vv0, vv1, ww, oa, co, rfl, hcp, hst, hcs, hcf, had⟩ := hX
  obtain ⟨ho, hos, hof, hold, hz, htx, hk01⟩ := hR
  have hs := okf_shp (by omega) ho
  have hsS := okf_shp (by omega) hos
  have hrg : ∀ k, k < 6 → Shp (ff k) := fun k hk => okf_shp (by omega) (hof k hk)
  have heok := eR_ok htx
  have hrt := rR_le (nn tx) len
  have hS : va_S noA s.heap s.heap [] := va_S.rf
  refine lv_aload_n hx hb dL_load_0 rfl (lv_at hl 2 rfl) ?_
  refine lv_iconst (v := nI 0) hx hb dL_load_1 (by decide +kernel) ?_
  refine lv_aload_n hx hb dL_load_2 rfl (lv_at hl 0 rfl) ?_
  refine lv_iload_n hx hb dL_load_3 rfl (lv_at hl 1 rfl) ?_
  refine xcall (vx_runV (As := [.int (nI q)]) (rest := [.int (nI 0), .ref ou]) ⟨hx, hb, hml, hown, hts⟩ (c_X5_load_e2 l hlt G fe (tn 0) (sn 0) ha oa hsn an f v0 v1 w hs q hq hcan) (cwV 1 hts gL_load_X5_load rfl rfl rfl (by decide +kernel) ⟨Nat.le_of_ble_eq_true rfl, Nat.le_of_ble_eq_true rfl⟩) (PJ.preV hE hJ hRv (P_pre (P_perm pm_FN hP))) rfl rfl hl.1 rfl (lv_room (Nat.le_of_ble_eq_true rfl)) dL_load_4 ⟨Nat.le_of_ble_eq_true rfl, Nat.le_of_ble_eq_true rfl⟩) hS (fun H locs xq ce hk hS hq hv hc => ?_)
  refine vx_catch hown [(⟨0, 9, 12, 13⟩ : ExceptionTableEntry)] (⟨0, 9, 15, 20⟩ : ExceptionTableEntry) [] (htab.trans rfl) (fun z hz => by
      simp only [List.mem_cons, List.not_mem_nil, or_false] at hz
      rcases hz with rfl
      · exact Or.inr ⟨by decide, "java/lang/IndexOutOfBoundsException", hts (.classLink RL 13 "java/lang/IndexOutOfBoundsException") (by decide +kernel), hJ.2.2.2.2.1.2.2.1⟩) (by decide) (by decide) (hts (.classLink RL 20 "java/lang/IllegalStateException") (by decide +kernel)) (va_Nw.use rfl (hJ.2.2.2.1 "java/lang/IllegalStateException" (by decide))) hq hv hc ?_
  refine lv_astore_n (lv' := [(3, .ref xq), (0, .ref fe), (1, .int (nI q)), (2, .ref ou)]) hx hb dL_load_15 rfl hl (by decide) rfl (fun ls hl => ?_)
  refine lv_iconst (v := nI 2) hx hb dL_load_16 (by decide +kernel) ?_
  exact W.iret hx hb hr (fun t ht hW => ⟨rfl, trivial, hS.F ht⟩) hS.2.2 dL_load_17
set_option maxHeartbeats 4000000 in
set_option maxRecDepth 100000 in
theorem CL_cross_ok (l : Launch) (G : eG) (cJ : ClassId) {ou : Nat} {lo : Nat → Int64} {fe B : Nat} {f sf : Nat → Int32} {ff : Nat → Nat → Int32} {old sz len : Nat} {tx : Nat → Int32} {hsn : Int32} {WC : va_W} (hX : XS G fe f sf ff old sz len tx hsn WC) (hR : PR B f sf ff old sz len tx hsn) (hB : B < 700000000) (hc : Cro f) (hr0 : fRsn f = 0) : Met l yL_cross wsL_cross ({ frames := 6, cells := 0, slots := 0, locals := 145 }) (PL [.ref fe, .ref ou] G cJ (fun H => va_P G.1 vwCl ([(ou, .inl (cJ, 1, .inr (.inl lo)))] ++ WC) H ∧ va_D (fun _ => True) ([(ou, .inl (cJ, 1, .inr (.inl lo)))] ++ WC))) (MV (some (.int (nI 0))) (fun H => ∃ W', XS G fe (fCrs f) sf (rgS ff (hAt old sz) f) (hOld old sz) (svM sz) len tx hsn W' ∧ va_P G.1 vwCl ([(ou, .inl (cJ, 1, .inr (.inl (vp_updL lo 0 (((nI (fHrs f))).toInt64)))))] ++ W') H ∧ va_D (inW ([(ou, .inl (cJ, 1, .inr (.inl lo)))] ++ WC)) ([(ou, .inl (cJ, 1, .inr (.inl (vp_updL lo 0 (((nI (fHrs f))).toInt64)))))] ++ W')) (inW ([(ou, .inl (cJ, 1, .inr (.inl lo)))] ++ WC))) 0 0 (inW ([(ou, .inl (cJ, 1, .inr (.inl lo)))] ++ WC)) := by
  refine ofBL (cc := cL_cross) (maxL := 3) (ret := some .int) (by decide) rfl (Nat.le_of_ble_eq_true rfl) ?_
  intro p e s m below meth c hx hb hr hlocks hml hown hin hts hE hJ hKJ hI htab ls hl
  replace hown : s.vm.findClass RL = some m.cls := hown
  have hl : lv_has ls 3 [(0, .ref fe), (1, .ref ou)] := hl
  obtain ⟨hP, hD0⟩ := hI
  have hD : va_D (inW ([(ou, .inl (cJ, 1, .inr (.inl lo)))] ++ WC)) ([(ou, .inl (cJ, 1, .inr (.inl lo)))] ++ WC) := D_self hD0
  obtain ⟨A, hAe⟩ : ∃ A, A = inW ([(ou, .inl (cJ, 1, .inr (.inl lo)))] ++ WC) := ⟨_, rfl⟩
  rw [← hAe] at hD ⊢
  have hS : va_S A s.heap s.heap [] := va_S.rf
  obtain ⟨H, hHe⟩ : ∃ H, H = s.heap := ⟨_, rfl⟩
  obtain ⟨locs, hle⟩ : ∃ q : List Loc, q = [] := ⟨_, rfl⟩
  rw [← hle] at hS ⊢
  have hP : va_P G.1 vwCl (WC ++ [(ou, .inl (cJ, 1, .inr (.inl lo)))]) H := by rw [hHe]; exact P_perm List.perm_append_comm hP
  replace hD : va_D A (WC ++ [(ou, .inl (cJ, 1, .inr (.inl lo)))]) := D_perm List.perm_append_comm hD
  replace hS : va_S A s.heap H locs := by rw [hHe]; exact hS
  replace hJ : JX s H := by rw [hHe]; exact hJ
  refine tH hHe ?_
  refine lv_aload_n hx hb dL_cross_0 rfl (lv_at hl 1 rfl) ?_
  refine lv_iconst (v := nI 0) hx hb dL_cross_1 (by decide +kernel) ?_
  refine lv_aload_n hx hb dL_cross_2 rfl (lv_at hl 0 rfl) ?_
  have hPc := P_pre hP
  have hDc := D_pre hD
  refine mcall (st1 := [.int (nI (fHrs f)), .int (nI 0), .ref ou]) (va_runV (As := []) (rest := [.int (nI 0), .ref ou]) ⟨hx, hb, hml, hown, hts⟩ (CX_cross_ok l G hX hR hB hc hr0) (cwV 0 hts gL_cross_X5_cross rfl rfl rfl (by decide +kernel) ⟨Nat.le_of_ble_eq_true rfl, Nat.le_of_ble_eq_true rfl⟩) (PJ.preV hE hJ (xs_recv hE.1 hX hPc) ⟨hPc, hDc.weaken (fun _ _ _ _ => trivial)⟩) rfl rfl hl.1 rfl (lv_room (Nat.le_of_ble_eq_true rfl)) dL_cross_3 ⟨Nat.zero_le _, Nat.zero_le _⟩) hS (fun q _ h => inW_D hDc q h) (fun q h => inW_D hDc q h) rfl (fun H1 locs1 hB9 hz1 hk1 hS => ?_)
  obtain ⟨W', hX', hP1, hD1⟩ := hB9
  obtain ⟨hP, hD⟩ := jnF (w1 := W') hP hD hk1 hP1 hD1
  generalize H1 = H at hP hS ⊢
  replace hP : va_P G.1 vwCl ([(ou, .inl (cJ, 1, .inr (.inl lo)))] ++ W') H := P_perm List.perm_append_comm hP
  replace hD : va_D A ([(ou, .inl (cJ, 1, .inr (.inl lo)))] ++ W') := D_perm List.perm_append_comm hD
  refine lv_i2l (v := ((nI (fHrs f))).toInt64) hx hb dL_cross_6 rfl ?_
  refine va_last hx hb hKJ hP hD hS 0 0 rfl rfl (vp_in_nI (n := 0) (N := 1) (by decide) (by decide)) dL_cross_7 (fun H locs hP hD hS => ?_)
  rw [nI_clamp (by decide)] at hP hD
  refine lv_goto (tgt := 14) hx hb dL_cross_8 (by decide) ?_
  refine lv_iconst (v := nI 0) hx hb dL_cross_14 (by decide +kernel) ?_
  exact W.iret hx hb hr (fun t ht hW => ⟨rfl, by rw [ht]; exact ⟨W', hX', hP, hD⟩, hS.F ht⟩) hS.2.2 dL_cross_15
set_option maxHeartbeats 4000000 in
set_option maxRecDepth 100000 in
theorem CL_cross_e1 (l : Launch) (hlt : l.stackTraces = false) (G : eG) (cJ : ClassId) {ou : Nat} {fe B : Nat} {f sf : Nat → Int32} {ff : Nat → Nat → Int32} {old sz len : Nat} {tx : Nat → Int32} {hsn : Int32} {WC : va_W} (hX : XS G fe f sf ff old sz len tx hsn WC) (hR : PR B f sf ff old sz len tx hsn) (hB : B < 700000000) (hr0 : ¬ fRsn f = 0) : Met l yL_cross wsL_cross ({ frames := 7, cells := 1, slots := 6, locals := 113 }) (PL [.ref fe, .ref ou] G cJ (fun H => va_P G.1 vwCl WC H ∧ va_D (fun _ => True) WC)) (MV (some (.int (nI 1))) (fun _ => True) noA) 1 6 noA := by
  refine ofBL (cc := cL_cross) (maxL := 3) (ret := some .int) (by decide) rfl (Nat.le_of_ble_eq_true rfl) ?_
  intro p e s m below meth c hx hb hr hlocks hml hown hin hts hE hJ hKJ hI htab ls hl
  replace hown : s.vm.findClass RL = some m.cls := hown
  have hl : lv_has ls 3 [(0, .ref fe), (1, .ref ou)] := hl
  obtain ⟨hP, hD0⟩ := hI
  have hRv := xs_recv hE.1 hX hP
  obtain ⟨an, tn, sn, v0, v1, w, tf, tv0, tv1, tw, sv0, sv1, sw, ha, sv, ad, aa, vv0, vv1, ww, oa, co, rfl, hcp, hst, hcs, hcf, had⟩ := hX
  obtain ⟨ho, hos, hof, hold, hz, htx, hk01⟩ := hR
  have hs := okf_shp (by omega) ho
  have hsS := okf_shp (by omega) hos
  have hrg : ∀ k, k < 6 → Shp (ff k) := fun k hk => okf_shp (by omega) (hof k hk)
  have heok := eR_ok htx
  have hrt := rR_le (nn tx) len
  have hS : va_S noA s.heap s.heap [] := va_S.rf
  refine lv_aload_n hx hb dL_cross_0 rfl (lv_at hl 1 rfl) ?_
  refine lv_iconst (v := nI 0) hx hb dL_cross_1 (by decide +kernel) ?_
  refine lv_aload_n hx hb dL_cross_2 rfl (lv_at hl 0 rfl) ?_
  refine xcall (vx_runV (As := []) (rest := [.int (nI 0), .ref ou]) ⟨hx, hb, hml, hown, hts⟩ (c_X5_cross_e1 l hlt G fe (tn 0) (sn 0) ha oa hsn an f v0 v1 w hs hr0) (cwV 0 hts gL_cross_X5_cross rfl rfl rfl (by decide +kernel) ⟨Nat.le_of_ble_eq_true rfl, Nat.le_of_ble_eq_true rfl⟩) (PJ.preV hE hJ hRv (P_pre (P_perm pm_FN hP))) rfl rfl hl.1 rfl (lv_room (Nat.le_of_ble_eq_true rfl)) dL_cross_3 ⟨Nat.le_of_ble_eq_true rfl, Nat.le_of_ble_eq_true rfl⟩) hS (fun H locs xq ce hk hS hq hv hc => ?_)
  refine vx_catch hown [] (⟨0, 8, 11, 20⟩ : ExceptionTableEntry) [] (htab.trans rfl) (fun z hz => by cases hz) (by decide) (by decide) (hts (.classLink RL 20 "java/lang/IllegalStateException") (by decide +kernel)) (va_Nw.use rfl (hJ.2.2.2.1 "java/lang/IllegalStateException" (by decide))) hq hv hc ?_
  refine lv_astore_n (lv' := [(2, .ref xq), (0, .ref fe), (1, .ref ou)]) hx hb dL_cross_11 rfl hl (by decide) rfl (fun ls hl => ?_)
  refine lv_iconst (v := nI 1) hx hb dL_cross_12 (by decide +kernel) ?_
  exact W.iret hx hb hr (fun t ht hW => ⟨rfl, trivial, hS.F ht⟩) hS.2.2 dL_cross_13
set_option maxHeartbeats 4000000 in
set_option maxRecDepth 100000 in
theorem CL_pass_ok (l : Launch) (G : eG) (cJ : ClassId) {ou : Nat} {lo : Nat → Int64} {fe B : Nat} {f sf : Nat → Int32} {ff : Nat → Nat → Int32} {old sz len : Nat} {tx : Nat → Int32} {hsn : Int32} {WC : va_W} (hX : XS G fe f sf ff old sz len tx hsn WC) (hR : PR B f sf ff old sz len tx hsn) (hB : B < 700000000) (h : Nat) (h1 : 1 ≤ h) (h2 : h ≤ 100) : Met l yL_pass wsL_pass ({ frames := 6, cells := 0, slots := 0, locals := 146 }) (PL [.ref fe, .int (nI h), .ref ou] G cJ (fun H => va_P G.1 vwCl ([(ou, .inl (cJ, 1, .inr (.inl lo)))] ++ WC) H ∧ va_D (fun _ => True) ([(ou, .inl (cJ, 1, .inr (.inl lo)))] ++ WC))) (MV (some (.int (nI 0))) (fun H => ∃ W', XS G fe (fPas f (nI h)) sf (rgS ff (hAt old sz) f) (hOld old sz) (svM sz) len tx hsn W' ∧ va_P G.1 vwCl ([(ou, .inl (cJ, 1, .inr (.inl (vp_updL lo 0 (((f 50 + nI h)).toInt64)))))] ++ W') H ∧ va_D (inW ([(ou, .inl (cJ, 1, .inr (.inl lo)))] ++ WC)) ([(ou, .inl (cJ, 1, .inr (.inl (vp_updL lo 0 (((f 50 + nI h)).toInt64)))))] ++ W')) (inW ([(ou, .inl (cJ, 1, .inr (.inl lo)))] ++ WC))) 0 0 (inW ([(ou, .inl (cJ, 1, .inr (.inl lo)))] ++ WC)) := by
  refine ofBL (cc := cL_pass) (maxL := 4) (ret := some .int) (by decide) rfl (Nat.le_of_ble_eq_true rfl) ?_
  intro p e s m below meth c hx hb hr hlocks hml hown hin hts hE hJ hKJ hI htab ls hl
  replace hown : s.vm.findClass RL = some m.cls := hown
  have hl : lv_has ls 4 [(0, .ref fe), (1, .int (nI h)), (2, .ref ou)] := hl
  obtain ⟨hP, hD0⟩ := hI
  have hD : va_D (inW ([(ou, .inl (cJ, 1, .inr (.inl lo)))] ++ WC)) ([(ou, .inl (cJ, 1, .inr (.inl lo)))] ++ WC) := D_self hD0
  obtain ⟨A, hAe⟩ : ∃ A, A = inW ([(ou, .inl (cJ, 1, .inr (.inl lo)))] ++ WC) := ⟨_, rfl⟩
  rw [← hAe] at hD ⊢
  have hS : va_S A s.heap s.heap [] := va_S.rf
  obtain ⟨H, hHe⟩ : ∃ H, H = s.heap := ⟨_, rfl⟩
  obtain ⟨locs, hle⟩ : ∃ q : List Loc, q = [] := ⟨_, rfl⟩
  rw [← hle] at hS ⊢
  have hP : va_P G.1 vwCl (WC ++ [(ou, .inl (cJ, 1, .inr (.inl lo)))]) H := by rw [hHe]; exact P_perm List.perm_append_comm hP
  replace hD : va_D A (WC ++ [(ou, .inl (cJ, 1, .inr (.inl lo)))]) := D_perm List.perm_append_comm hD
  replace hS : va_S A s.heap H locs := by rw [hHe]; exact hS
  replace hJ : JX s H := by rw [hHe]; exact hJ
  refine tH hHe ?_
  refine lv_aload_n hx hb dL_pass_0 rfl (lv_at hl 2 rfl) ?_
  refine lv_iconst (v := nI 0) hx hb dL_pass_1 (by decide +kernel) ?_
  refine lv_aload_n hx hb dL_pass_2 rfl (lv_at hl 0 rfl) ?_
  refine lv_iload_n hx hb dL_pass_3 rfl (lv_at hl 1 rfl) ?_
  have hPc := P_pre hP
  have hDc := D_pre hD
  refine mcall (st1 := [.int (f 50 + nI h), .int (nI 0), .ref ou]) (va_runV (As := [.int (nI h)]) (rest := [.int (nI 0), .ref ou]) ⟨hx, hb, hml, hown, hts⟩ (CX_pass_ok l G hX hR hB h h1 h2) (cwV 1 hts gL_pass_X5_pass rfl rfl rfl (by decide +kernel) ⟨Nat.le_of_ble_eq_true rfl, Nat.le_of_ble_eq_true rfl⟩) (PJ.preV hE hJ (xs_recv hE.1 hX hPc) ⟨hPc, hDc.weaken (fun _ _ _ _ => trivial)⟩) rfl rfl hl.1 rfl (lv_room (Nat.le_of_ble_eq_true rfl)) dL_pass_4 ⟨Nat.zero_le _, Nat.zero_le _⟩) hS (fun q _ h => inW_D hDc q h) (fun q h => inW_D hDc q h) rfl (fun H1 locs1 hB9 hz1 hk1 hS => ?_)
  obtain ⟨W', hX', hP1, hD1⟩ := hB9
  obtain ⟨hP, hD⟩ := jnF (w1 := W') hP hD hk1 hP1 hD1
  generalize H1 = H at hP hS ⊢
  replace hP : va_P G.1 vwCl ([(ou, .inl (cJ, 1, .inr (.inl lo)))] ++ W') H := P_perm List.perm_append_comm hP
  replace hD : va_D A ([(ou, .inl (cJ, 1, .inr (.inl lo)))] ++ W') := D_perm List.perm_append_comm hD
  refine lv_i2l (v := ((f 50 + nI h)).toInt64) hx hb dL_pass_7 rfl ?_
  refine va_last hx hb hKJ hP hD hS 0 0 rfl rfl (vp_in_nI (n := 0) (N := 1) (by decide) (by decide)) dL_pass_8 (fun H locs hP hD hS => ?_)
  rw [nI_clamp (by decide)] at hP hD
  refine lv_goto (tgt := 15) hx hb dL_pass_9 (by decide) ?_
  refine lv_iconst (v := nI 0) hx hb dL_pass_15 (by decide +kernel) ?_
  exact W.iret hx hb hr (fun t ht hW => ⟨rfl, by rw [ht]; exact ⟨W', hX', hP, hD⟩, hS.F ht⟩) hS.2.2 dL_pass_16
set_option maxHeartbeats 4000000 in
set_option maxRecDepth 100000 in
theorem CL_pass_e1 (l : Launch) (hlt : l.stackTraces = false) (G : eG) (cJ : ClassId) {ou : Nat} {fe B : Nat} {f sf : Nat → Int32} {ff : Nat → Nat → Int32} {old sz len : Nat} {tx : Nat → Int32} {hsn : Int32} {WC : va_W} (hX : XS G fe f sf ff old sz len tx hsn WC) (hR : PR B f sf ff old sz len tx hsn) (hB : B < 700000000) (p0 : Int32) (hNo : ¬ (nI 1 ≤ p0 ∧ p0 ≤ nI 100)) : Met l yL_pass wsL_pass ({ frames := 7, cells := 1, slots := 6, locals := 103 }) (PL [.ref fe, .int p0, .ref ou] G cJ (fun H => va_P G.1 vwCl WC H ∧ va_D (fun _ => True) WC)) (MV (some (.int (nI 1))) (fun _ => True) noA) 1 6 noA := by
  refine ofBL (cc := cL_pass) (maxL := 4) (ret := some .int) (by decide) rfl (Nat.le_of_ble_eq_true rfl) ?_
  intro p e s m below meth c hx hb hr hlocks hml hown hin hts hE hJ hKJ hI htab ls hl
  replace hown : s.vm.findClass RL = some m.cls := hown
  have hl : lv_has ls 4 [(0, .ref fe), (1, .int p0), (2, .ref ou)] := hl
  obtain ⟨hP, hD0⟩ := hI
  have hRv := xs_recv hE.1 hX hP
  obtain ⟨an, tn, sn, v0, v1, w, tf, tv0, tv1, tw, sv0, sv1, sw, ha, sv, ad, aa, vv0, vv1, ww, oa, co, rfl, hcp, hst, hcs, hcf, had⟩ := hX
  obtain ⟨ho, hos, hof, hold, hz, htx, hk01⟩ := hR
  have hs := okf_shp (by omega) ho
  have hsS := okf_shp (by omega) hos
  have hrg : ∀ k, k < 6 → Shp (ff k) := fun k hk => okf_shp (by omega) (hof k hk)
  have heok := eR_ok htx
  have hrt := rR_le (nn tx) len
  have hS : va_S noA s.heap s.heap [] := va_S.rf
  refine lv_aload_n hx hb dL_pass_0 rfl (lv_at hl 2 rfl) ?_
  refine lv_iconst (v := nI 0) hx hb dL_pass_1 (by decide +kernel) ?_
  refine lv_aload_n hx hb dL_pass_2 rfl (lv_at hl 0 rfl) ?_
  refine lv_iload_n hx hb dL_pass_3 rfl (lv_at hl 1 rfl) ?_
  refine xcall (vx_runV (As := [.int p0]) (rest := [.int (nI 0), .ref ou]) ⟨hx, hb, hml, hown, hts⟩ (c_X5_pass_e1 l hlt G fe p0 hNo) (cwV 1 hts gL_pass_X5_pass rfl rfl rfl (by decide +kernel) ⟨Nat.le_of_ble_eq_true rfl, Nat.le_of_ble_eq_true rfl⟩) (PJ.preV hE hJ hRv P_nil) rfl rfl hl.1 rfl (lv_room (Nat.le_of_ble_eq_true rfl)) dL_pass_4 ⟨Nat.le_of_ble_eq_true rfl, Nat.le_of_ble_eq_true rfl⟩) hS (fun H locs xq ce hk hS hq hv hc => ?_)
  refine vx_catch hown [] (⟨0, 9, 12, 15⟩ : ExceptionTableEntry) [] (htab.trans rfl) (fun z hz => by cases hz) (by decide) (by decide) (hts (.classLink RL 15 "java/lang/IllegalArgumentException") (by decide +kernel)) (va_Nw.use rfl (hJ.2.2.2.1 "java/lang/IllegalArgumentException" (by decide))) hq hv hc ?_
  refine lv_astore_n (lv' := [(3, .ref xq), (0, .ref fe), (1, .int p0), (2, .ref ou)]) hx hb dL_pass_12 rfl hl (by decide) rfl (fun ls hl => ?_)
  refine lv_iconst (v := nI 1) hx hb dL_pass_13 (by decide +kernel) ?_
  exact W.iret hx hb hr (fun t ht hW => ⟨rfl, trivial, hS.F ht⟩) hS.2.2 dL_pass_14
set_option maxHeartbeats 4000000 in
set_option maxRecDepth 100000 in
theorem CL_draw_ok (l : Launch) (G : eG) (cJ : ClassId) {ou : Nat} {lo : Nat → Int64} {fe B : Nat} {f sf : Nat → Int32} {ff : Nat → Nat → Int32} {old sz len : Nat} {tx : Nat → Int32} {hsn : Int32} {WC : va_W} (hX : XS G fe f sf ff old sz len tx hsn WC) (hR : PR B f sf ff old sz len tx hsn) (hB : B < 700000000) (hd : rg f 49 40) (d : Nat) (h1 : 1 ≤ d) (h2 : d ≤ 5) (h3 : d ≤ nn f 49) : Met l yL_draw wsL_draw ({ frames := 6, cells := 0, slots := 0, locals := 146 }) (PL [.ref fe, .int (nI d), .ref ou] G cJ (fun H => va_P G.1 vwCl ([(ou, .inl (cJ, 1, .inr (.inl lo)))] ++ WC) H ∧ va_D (fun _ => True) ([(ou, .inl (cJ, 1, .inr (.inl lo)))] ++ WC))) (MV (some (.int (nI 0))) (fun H => ∃ W', XS G fe (fDrw f d) sf (rgS ff (hAt old sz) f) (hOld old sz) (svM sz) len tx hsn W' ∧ va_P G.1 vwCl ([(ou, .inl (cJ, 1, .inr (.inl (vp_updL lo 0 (((f 49 - nI d)).toInt64)))))] ++ W') H ∧ va_D (inW ([(ou, .inl (cJ, 1, .inr (.inl lo)))] ++ WC)) ([(ou, .inl (cJ, 1, .inr (.inl (vp_updL lo 0 (((f 49 - nI d)).toInt64)))))] ++ W')) (inW ([(ou, .inl (cJ, 1, .inr (.inl lo)))] ++ WC))) 0 0 (inW ([(ou, .inl (cJ, 1, .inr (.inl lo)))] ++ WC)) := by
  refine ofBL (cc := cL_draw) (maxL := 4) (ret := some .int) (by decide) rfl (Nat.le_of_ble_eq_true rfl) ?_
  intro p e s m below meth c hx hb hr hlocks hml hown hin hts hE hJ hKJ hI htab ls hl
  replace hown : s.vm.findClass RL = some m.cls := hown
  have hl : lv_has ls 4 [(0, .ref fe), (1, .int (nI d)), (2, .ref ou)] := hl
  obtain ⟨hP, hD0⟩ := hI
  have hD : va_D (inW ([(ou, .inl (cJ, 1, .inr (.inl lo)))] ++ WC)) ([(ou, .inl (cJ, 1, .inr (.inl lo)))] ++ WC) := D_self hD0
  obtain ⟨A, hAe⟩ : ∃ A, A = inW ([(ou, .inl (cJ, 1, .inr (.inl lo)))] ++ WC) := ⟨_, rfl⟩
  rw [← hAe] at hD ⊢
  have hS : va_S A s.heap s.heap [] := va_S.rf
  obtain ⟨H, hHe⟩ : ∃ H, H = s.heap := ⟨_, rfl⟩
  obtain ⟨locs, hle⟩ : ∃ q : List Loc, q = [] := ⟨_, rfl⟩
  rw [← hle] at hS ⊢
  have hP : va_P G.1 vwCl (WC ++ [(ou, .inl (cJ, 1, .inr (.inl lo)))]) H := by rw [hHe]; exact P_perm List.perm_append_comm hP
  replace hD : va_D A (WC ++ [(ou, .inl (cJ, 1, .inr (.inl lo)))]) := D_perm List.perm_append_comm hD
  replace hS : va_S A s.heap H locs := by rw [hHe]; exact hS
  replace hJ : JX s H := by rw [hHe]; exact hJ
  refine tH hHe ?_
  refine lv_aload_n hx hb dL_draw_0 rfl (lv_at hl 2 rfl) ?_
  refine lv_iconst (v := nI 0) hx hb dL_draw_1 (by decide +kernel) ?_
  refine lv_aload_n hx hb dL_draw_2 rfl (lv_at hl 0 rfl) ?_
  refine lv_iload_n hx hb dL_draw_3 rfl (lv_at hl 1 rfl) ?_
  have hPc := P_pre hP
  have hDc := D_pre hD
  refine mcall (st1 := [.int (f 49 - nI d), .int (nI 0), .ref ou]) (va_runV (As := [.int (nI d)]) (rest := [.int (nI 0), .ref ou]) ⟨hx, hb, hml, hown, hts⟩ (CX_draw_ok l G hX hR hB hd d h1 h2 h3) (cwV 1 hts gL_draw_X5_draw rfl rfl rfl (by decide +kernel) ⟨Nat.le_of_ble_eq_true rfl, Nat.le_of_ble_eq_true rfl⟩) (PJ.preV hE hJ (xs_recv hE.1 hX hPc) ⟨hPc, hDc.weaken (fun _ _ _ _ => trivial)⟩) rfl rfl hl.1 rfl (lv_room (Nat.le_of_ble_eq_true rfl)) dL_draw_4 ⟨Nat.zero_le _, Nat.zero_le _⟩) hS (fun q _ h => inW_D hDc q h) (fun q h => inW_D hDc q h) rfl (fun H1 locs1 hB9 hz1 hk1 hS => ?_)
  obtain ⟨W', hX', hP1, hD1⟩ := hB9
  obtain ⟨hP, hD⟩ := jnF (w1 := W') hP hD hk1 hP1 hD1
  generalize H1 = H at hP hS ⊢
  replace hP : va_P G.1 vwCl ([(ou, .inl (cJ, 1, .inr (.inl lo)))] ++ W') H := P_perm List.perm_append_comm hP
  replace hD : va_D A ([(ou, .inl (cJ, 1, .inr (.inl lo)))] ++ W') := D_perm List.perm_append_comm hD
  refine lv_i2l (v := ((f 49 - nI d)).toInt64) hx hb dL_draw_7 rfl ?_
  refine va_last hx hb hKJ hP hD hS 0 0 rfl rfl (vp_in_nI (n := 0) (N := 1) (by decide) (by decide)) dL_draw_8 (fun H locs hP hD hS => ?_)
  rw [nI_clamp (by decide)] at hP hD
  refine lv_goto (tgt := 18) hx hb dL_draw_9 (by decide) ?_
  refine lv_iconst (v := nI 0) hx hb dL_draw_18 (by decide +kernel) ?_
  exact W.iret hx hb hr (fun t ht hW => ⟨rfl, by rw [ht]; exact ⟨W', hX', hP, hD⟩, hS.F ht⟩) hS.2.2 dL_draw_19
set_option maxHeartbeats 4000000 in
set_option maxRecDepth 100000 in
theorem CL_draw_e1 (l : Launch) (hlt : l.stackTraces = false) (G : eG) (cJ : ClassId) {ou : Nat} {fe B : Nat} {f sf : Nat → Int32} {ff : Nat → Nat → Int32} {old sz len : Nat} {tx : Nat → Int32} {hsn : Int32} {WC : va_W} (hX : XS G fe f sf ff old sz len tx hsn WC) (hR : PR B f sf ff old sz len tx hsn) (hB : B < 700000000) (p0 : Int32) (hNo : ¬ (nI 1 ≤ p0 ∧ p0 ≤ nI 5)) : Met l yL_draw wsL_draw ({ frames := 7, cells := 1, slots := 6, locals := 103 }) (PL [.ref fe, .int p0, .ref ou] G cJ (fun H => va_P G.1 vwCl WC H ∧ va_D (fun _ => True) WC)) (MV (some (.int (nI 1))) (fun _ => True) noA) 1 6 noA := by
  refine ofBL (cc := cL_draw) (maxL := 4) (ret := some .int) (by decide) rfl (Nat.le_of_ble_eq_true rfl) ?_
  intro p e s m below meth c hx hb hr hlocks hml hown hin hts hE hJ hKJ hI htab ls hl
  replace hown : s.vm.findClass RL = some m.cls := hown
  have hl : lv_has ls 4 [(0, .ref fe), (1, .int p0), (2, .ref ou)] := hl
  obtain ⟨hP, hD0⟩ := hI
  have hRv := xs_recv hE.1 hX hP
  obtain ⟨an, tn, sn, v0, v1, w, tf, tv0, tv1, tw, sv0, sv1, sw, ha, sv, ad, aa, vv0, vv1, ww, oa, co, rfl, hcp, hst, hcs, hcf, had⟩ := hX
  obtain ⟨ho, hos, hof, hold, hz, htx, hk01⟩ := hR
  have hs := okf_shp (by omega) ho
  have hsS := okf_shp (by omega) hos
  have hrg : ∀ k, k < 6 → Shp (ff k) := fun k hk => okf_shp (by omega) (hof k hk)
  have heok := eR_ok htx
  have hrt := rR_le (nn tx) len
  have hS : va_S noA s.heap s.heap [] := va_S.rf
  refine lv_aload_n hx hb dL_draw_0 rfl (lv_at hl 2 rfl) ?_
  refine lv_iconst (v := nI 0) hx hb dL_draw_1 (by decide +kernel) ?_
  refine lv_aload_n hx hb dL_draw_2 rfl (lv_at hl 0 rfl) ?_
  refine lv_iload_n hx hb dL_draw_3 rfl (lv_at hl 1 rfl) ?_
  refine xcall (vx_runV (As := [.int p0]) (rest := [.int (nI 0), .ref ou]) ⟨hx, hb, hml, hown, hts⟩ (c_X5_draw_e1 l hlt G fe p0 hNo) (cwV 1 hts gL_draw_X5_draw rfl rfl rfl (by decide +kernel) ⟨Nat.le_of_ble_eq_true rfl, Nat.le_of_ble_eq_true rfl⟩) (PJ.preV hE hJ hRv P_nil) rfl rfl hl.1 rfl (lv_room (Nat.le_of_ble_eq_true rfl)) dL_draw_4 ⟨Nat.le_of_ble_eq_true rfl, Nat.le_of_ble_eq_true rfl⟩) hS (fun H locs xq ce hk hS hq hv hc => ?_)
  refine vx_catch hown [] (⟨0, 9, 12, 15⟩ : ExceptionTableEntry) [(⟨0, 9, 15, 20⟩ : ExceptionTableEntry)] (htab.trans rfl) (fun z hz => by cases hz) (by decide) (by decide) (hts (.classLink RL 15 "java/lang/IllegalArgumentException") (by decide +kernel)) (va_Nw.use rfl (hJ.2.2.2.1 "java/lang/IllegalArgumentException" (by decide))) hq hv hc ?_
  refine lv_astore_n (lv' := [(3, .ref xq), (0, .ref fe), (1, .int p0), (2, .ref ou)]) hx hb dL_draw_12 rfl hl (by decide) rfl (fun ls hl => ?_)
  refine lv_iconst (v := nI 1) hx hb dL_draw_13 (by decide +kernel) ?_
  exact W.iret hx hb hr (fun t ht hW => ⟨rfl, trivial, hS.F ht⟩) hS.2.2 dL_draw_14
set_option maxHeartbeats 4000000 in
set_option maxRecDepth 100000 in
theorem CL_draw_e2 (l : Launch) (hlt : l.stackTraces = false) (G : eG) (cJ : ClassId) {ou : Nat} {fe B : Nat} {f sf : Nat → Int32} {ff : Nat → Nat → Int32} {old sz len : Nat} {tx : Nat → Int32} {hsn : Int32} {WC : va_W} (hX : XS G fe f sf ff old sz len tx hsn WC) (hR : PR B f sf ff old sz len tx hsn) (hB : B < 700000000) (hd : rg f 49 40) (d : Nat) (h1 : 1 ≤ d) (h2 : d ≤ 5) (h3 : ¬ d ≤ nn f 49) : Met l yL_draw wsL_draw ({ frames := 7, cells := 1, slots := 6, locals := 103 }) (PL [.ref fe, .int (nI d), .ref ou] G cJ (fun H => va_P G.1 vwCl WC H ∧ va_D (fun _ => True) WC)) (MV (some (.int (nI 2))) (fun _ => True) noA) 1 6 noA := by
  refine ofBL (cc := cL_draw) (maxL := 4) (ret := some .int) (by decide) rfl (Nat.le_of_ble_eq_true rfl) ?_
  intro p e s m below meth c hx hb hr hlocks hml hown hin hts hE hJ hKJ hI htab ls hl
  replace hown : s.vm.findClass RL = some m.cls := hown
  have hl : lv_has ls 4 [(0, .ref fe), (1, .int (nI d)), (2, .ref ou)] := hl
  obtain ⟨hP, hD0⟩ := hI
  have hRv := xs_recv hE.1 hX hP
  obtain ⟨an, tn, sn, v0, v1, w, tf, tv0, tv1, tw, sv0, sv1, sw, ha, sv, ad, aa, vv0, vv1, ww, oa, co, rfl, hcp, hst, hcs, hcf, had⟩ := hX
  obtain ⟨ho, hos, hof, hold, hz, htx, hk01⟩ := hR
  have hs := okf_shp (by omega) ho
  have hsS := okf_shp (by omega) hos
  have hrg : ∀ k, k < 6 → Shp (ff k) := fun k hk => okf_shp (by omega) (hof k hk)
  have heok := eR_ok htx
  have hrt := rR_le (nn tx) len
  have hS : va_S noA s.heap s.heap [] := va_S.rf
  refine lv_aload_n hx hb dL_draw_0 rfl (lv_at hl 2 rfl) ?_
  refine lv_iconst (v := nI 0) hx hb dL_draw_1 (by decide +kernel) ?_
  refine lv_aload_n hx hb dL_draw_2 rfl (lv_at hl 0 rfl) ?_
  refine lv_iload_n hx hb dL_draw_3 rfl (lv_at hl 1 rfl) ?_
  refine xcall (vx_runV (As := [.int (nI d)]) (rest := [.int (nI 0), .ref ou]) ⟨hx, hb, hml, hown, hts⟩ (c_X5_draw_e2 l hlt G fe (tn 0) (sn 0) ha oa hsn an f v0 v1 w hd d h1 h2 h3) (cwV 1 hts gL_draw_X5_draw rfl rfl rfl (by decide +kernel) ⟨Nat.le_of_ble_eq_true rfl, Nat.le_of_ble_eq_true rfl⟩) (PJ.preV hE hJ hRv (P_pre (P_perm pm_FN hP))) rfl rfl hl.1 rfl (lv_room (Nat.le_of_ble_eq_true rfl)) dL_draw_4 ⟨Nat.le_of_ble_eq_true rfl, Nat.le_of_ble_eq_true rfl⟩) hS (fun H locs xq ce hk hS hq hv hc => ?_)
  refine vx_catch hown [(⟨0, 9, 12, 15⟩ : ExceptionTableEntry)] (⟨0, 9, 15, 20⟩ : ExceptionTableEntry) [] (htab.trans rfl) (fun z hz => by
      simp only [List.mem_cons, List.not_mem_nil, or_false] at hz
      rcases hz with rfl
      · exact Or.inr ⟨by decide, "java/lang/IllegalArgumentException", hts (.classLink RL 15 "java/lang/IllegalArgumentException") (by decide +kernel), hJ.2.2.2.2.1.2.2.2⟩) (by decide) (by decide) (hts (.classLink RL 20 "java/lang/IllegalStateException") (by decide +kernel)) (va_Nw.use rfl (hJ.2.2.2.1 "java/lang/IllegalStateException" (by decide))) hq hv hc ?_
  refine lv_astore_n (lv' := [(3, .ref xq), (0, .ref fe), (1, .int (nI d)), (2, .ref ou)]) hx hb dL_draw_15 rfl hl (by decide) rfl (fun ls hl => ?_)
  refine lv_iconst (v := nI 2) hx hb dL_draw_16 (by decide +kernel) ?_
  exact W.iret hx hb hr (fun t ht hW => ⟨rfl, trivial, hS.F ht⟩) hS.2.2 dL_draw_17
set_option maxHeartbeats 4000000 in
set_option maxRecDepth 100000 in
theorem CL_set_ok (l : Launch) (G : eG) (cJ : ClassId) {ou : Nat} {lo : Nat → Int64} {fe B : Nat} {f sf : Nat → Int32} {ff : Nat → Nat → Int32} {old sz len : Nat} {tx : Nat → Int32} {hsn : Int32} {WC : va_W} (hX : XS G fe f sf ff old sz len tx hsn WC) (hR : PR B f sf ff old sz len tx hsn) (hB : B < 700000000) (s0 : Nat) (v : Nat) (hs3 : s0 < 3) (h1 : stLo s0 ≤ v) (h2 : v ≤ stHi s0) : Met l yL_set wsL_set ({ frames := 6, cells := 0, slots := 0, locals := 148 }) (PL [.ref fe, .int (nI s0), .int (nI v), .ref ou] G cJ (fun H => va_P G.1 vwCl ([(ou, .inl (cJ, 1, .inr (.inl lo)))] ++ WC) H ∧ va_D (fun _ => True) ([(ou, .inl (cJ, 1, .inr (.inl lo)))] ++ WC))) (MV (some (.int (nI 0))) (fun H => ∃ W', XS G fe (upd f s0 (nI v)) sf (rgS ff (hAt old sz) f) (hOld old sz) (svM sz) len tx hsn W' ∧ va_P G.1 vwCl ([(ou, .inl (cJ, 1, .inr (.inl (vp_updL lo 0 (((f s0)).toInt64)))))] ++ W') H ∧ va_D (inW ([(ou, .inl (cJ, 1, .inr (.inl lo)))] ++ WC)) ([(ou, .inl (cJ, 1, .inr (.inl (vp_updL lo 0 (((f s0)).toInt64)))))] ++ W')) (inW ([(ou, .inl (cJ, 1, .inr (.inl lo)))] ++ WC))) 0 0 (inW ([(ou, .inl (cJ, 1, .inr (.inl lo)))] ++ WC)) := by
  refine ofBL (cc := cL_set) (maxL := 5) (ret := some .int) (by decide) rfl (Nat.le_of_ble_eq_true rfl) ?_
  intro p e s m below meth c hx hb hr hlocks hml hown hin hts hE hJ hKJ hI htab ls hl
  replace hown : s.vm.findClass RL = some m.cls := hown
  have hl : lv_has ls 5 [(0, .ref fe), (1, .int (nI s0)), (2, .int (nI v)), (3, .ref ou)] := hl
  obtain ⟨hP, hD0⟩ := hI
  have hD : va_D (inW ([(ou, .inl (cJ, 1, .inr (.inl lo)))] ++ WC)) ([(ou, .inl (cJ, 1, .inr (.inl lo)))] ++ WC) := D_self hD0
  obtain ⟨A, hAe⟩ : ∃ A, A = inW ([(ou, .inl (cJ, 1, .inr (.inl lo)))] ++ WC) := ⟨_, rfl⟩
  rw [← hAe] at hD ⊢
  have hS : va_S A s.heap s.heap [] := va_S.rf
  obtain ⟨H, hHe⟩ : ∃ H, H = s.heap := ⟨_, rfl⟩
  obtain ⟨locs, hle⟩ : ∃ q : List Loc, q = [] := ⟨_, rfl⟩
  rw [← hle] at hS ⊢
  have hP : va_P G.1 vwCl (WC ++ [(ou, .inl (cJ, 1, .inr (.inl lo)))]) H := by rw [hHe]; exact P_perm List.perm_append_comm hP
  replace hD : va_D A (WC ++ [(ou, .inl (cJ, 1, .inr (.inl lo)))]) := D_perm List.perm_append_comm hD
  replace hS : va_S A s.heap H locs := by rw [hHe]; exact hS
  replace hJ : JX s H := by rw [hHe]; exact hJ
  refine tH hHe ?_
  refine lv_aload_n hx hb dL_set_0 rfl (lv_at hl 3 rfl) ?_
  refine lv_iconst (v := nI 0) hx hb dL_set_1 (by decide +kernel) ?_
  refine lv_aload_n hx hb dL_set_2 rfl (lv_at hl 0 rfl) ?_
  refine lv_iload_n hx hb dL_set_3 rfl (lv_at hl 1 rfl) ?_
  refine lv_iload_n hx hb dL_set_4 rfl (lv_at hl 2 rfl) ?_
  have hPc := P_pre hP
  have hDc := D_pre hD
  refine mcall (st1 := [.int (f s0), .int (nI 0), .ref ou]) (va_runV (As := [.int (nI s0), .int (nI v)]) (rest := [.int (nI 0), .ref ou]) ⟨hx, hb, hml, hown, hts⟩ (CX_set_ok l G hX hR hB s0 v hs3 h1 h2) (cwV 2 hts gL_set_X5_set rfl rfl rfl (by decide +kernel) ⟨Nat.le_of_ble_eq_true rfl, Nat.le_of_ble_eq_true rfl⟩) (PJ.preV hE hJ (xs_recv hE.1 hX hPc) ⟨hPc, hDc.weaken (fun _ _ _ _ => trivial)⟩) rfl rfl hl.1 rfl (lv_room (Nat.le_of_ble_eq_true rfl)) dL_set_5 ⟨Nat.zero_le _, Nat.zero_le _⟩) hS (fun q _ h => inW_D hDc q h) (fun q h => inW_D hDc q h) rfl (fun H1 locs1 hB9 hz1 hk1 hS => ?_)
  obtain ⟨W', hX', hP1, hD1⟩ := hB9
  obtain ⟨hP, hD⟩ := jnF (w1 := W') hP hD hk1 hP1 hD1
  generalize H1 = H at hP hS ⊢
  replace hP : va_P G.1 vwCl ([(ou, .inl (cJ, 1, .inr (.inl lo)))] ++ W') H := P_perm List.perm_append_comm hP
  replace hD : va_D A ([(ou, .inl (cJ, 1, .inr (.inl lo)))] ++ W') := D_perm List.perm_append_comm hD
  refine lv_i2l (v := ((f s0)).toInt64) hx hb dL_set_8 rfl ?_
  refine va_last hx hb hKJ hP hD hS 0 0 rfl rfl (vp_in_nI (n := 0) (N := 1) (by decide) (by decide)) dL_set_9 (fun H locs hP hD hS => ?_)
  rw [nI_clamp (by decide)] at hP hD
  refine lv_goto (tgt := 21) hx hb dL_set_10 (by decide) ?_
  refine lv_iconst (v := nI 0) hx hb dL_set_21 (by decide +kernel) ?_
  exact W.iret hx hb hr (fun t ht hW => ⟨rfl, by rw [ht]; exact ⟨W', hX', hP, hD⟩, hS.F ht⟩) hS.2.2 dL_set_22
set_option maxHeartbeats 4000000 in
set_option maxRecDepth 100000 in
theorem CL_set_e1 (l : Launch) (hlt : l.stackTraces = false) (G : eG) (cJ : ClassId) {ou : Nat} {fe B : Nat} {f sf : Nat → Int32} {ff : Nat → Nat → Int32} {old sz len : Nat} {tx : Nat → Int32} {hsn : Int32} {WC : va_W} (hX : XS G fe f sf ff old sz len tx hsn WC) (hR : PR B f sf ff old sz len tx hsn) (hB : B < 700000000) (p0 : Int32) (p1 : Int32) (hNo : ¬ (nI 0 ≤ p0 ∧ p0 ≤ nI 2)) : Met l yL_set wsL_set ({ frames := 7, cells := 1, slots := 6, locals := 105 }) (PL [.ref fe, .int p0, .int p1, .ref ou] G cJ (fun H => va_P G.1 vwCl WC H ∧ va_D (fun _ => True) WC)) (MV (some (.int (nI 1))) (fun _ => True) noA) 1 6 noA := by
  refine ofBL (cc := cL_set) (maxL := 5) (ret := some .int) (by decide) rfl (Nat.le_of_ble_eq_true rfl) ?_
  intro p e s m below meth c hx hb hr hlocks hml hown hin hts hE hJ hKJ hI htab ls hl
  replace hown : s.vm.findClass RL = some m.cls := hown
  have hl : lv_has ls 5 [(0, .ref fe), (1, .int p0), (2, .int p1), (3, .ref ou)] := hl
  obtain ⟨hP, hD0⟩ := hI
  have hRv := xs_recv hE.1 hX hP
  obtain ⟨an, tn, sn, v0, v1, w, tf, tv0, tv1, tw, sv0, sv1, sw, ha, sv, ad, aa, vv0, vv1, ww, oa, co, rfl, hcp, hst, hcs, hcf, had⟩ := hX
  obtain ⟨ho, hos, hof, hold, hz, htx, hk01⟩ := hR
  have hs := okf_shp (by omega) ho
  have hsS := okf_shp (by omega) hos
  have hrg : ∀ k, k < 6 → Shp (ff k) := fun k hk => okf_shp (by omega) (hof k hk)
  have heok := eR_ok htx
  have hrt := rR_le (nn tx) len
  have hS : va_S noA s.heap s.heap [] := va_S.rf
  refine lv_aload_n hx hb dL_set_0 rfl (lv_at hl 3 rfl) ?_
  refine lv_iconst (v := nI 0) hx hb dL_set_1 (by decide +kernel) ?_
  refine lv_aload_n hx hb dL_set_2 rfl (lv_at hl 0 rfl) ?_
  refine lv_iload_n hx hb dL_set_3 rfl (lv_at hl 1 rfl) ?_
  refine lv_iload_n hx hb dL_set_4 rfl (lv_at hl 2 rfl) ?_
  refine xcall (vx_runV (As := [.int p0, .int p1]) (rest := [.int (nI 0), .ref ou]) ⟨hx, hb, hml, hown, hts⟩ (c_X5_set_e1 l hlt G fe p0 p1 hNo) (cwV 2 hts gL_set_X5_set rfl rfl rfl (by decide +kernel) ⟨Nat.le_of_ble_eq_true rfl, Nat.le_of_ble_eq_true rfl⟩) (PJ.preV hE hJ hRv P_nil) rfl rfl hl.1 rfl (lv_room (Nat.le_of_ble_eq_true rfl)) dL_set_5 ⟨Nat.le_of_ble_eq_true rfl, Nat.le_of_ble_eq_true rfl⟩) hS (fun H locs xq ce hk hS hq hv hc => ?_)
  refine vx_catch hown [] (⟨0, 10, 13, 13⟩ : ExceptionTableEntry) [(⟨0, 10, 17, 15⟩ : ExceptionTableEntry)] (htab.trans rfl) (fun z hz => by cases hz) (by decide) (by decide) (hts (.classLink RL 13 "java/lang/IndexOutOfBoundsException") (by decide +kernel)) (va_Nw.use rfl (hJ.2.2.2.1 "java/lang/IndexOutOfBoundsException" (by decide))) hq hv hc ?_
  refine lv_astore (lv' := [(4, .ref xq), (0, .ref fe), (1, .int p0), (2, .int p1), (3, .ref ou)]) hx hb dL_set_13 hl (by decide) rfl (fun ls hl => ?_)
  refine lv_iconst (v := nI 1) hx hb dL_set_15 (by decide +kernel) ?_
  exact W.iret hx hb hr (fun t ht hW => ⟨rfl, trivial, hS.F ht⟩) hS.2.2 dL_set_16
set_option maxHeartbeats 4000000 in
set_option maxRecDepth 100000 in
theorem CL_set_e2 (l : Launch) (hlt : l.stackTraces = false) (G : eG) (cJ : ClassId) {ou : Nat} {fe B : Nat} {f sf : Nat → Int32} {ff : Nat → Nat → Int32} {old sz len : Nat} {tx : Nat → Int32} {hsn : Int32} {WC : va_W} (hX : XS G fe f sf ff old sz len tx hsn WC) (hR : PR B f sf ff old sz len tx hsn) (hB : B < 700000000) (s0 : Nat) (p1 : Int32) (hs3 : s0 < 3) (hNo : ¬ (nI (stLo s0) ≤ p1 ∧ p1 ≤ nI (stHi s0))) : Met l yL_set wsL_set ({ frames := 7, cells := 1, slots := 6, locals := 105 }) (PL [.ref fe, .int (nI s0), .int p1, .ref ou] G cJ (fun H => va_P G.1 vwCl WC H ∧ va_D (fun _ => True) WC)) (MV (some (.int (nI 2))) (fun _ => True) noA) 1 6 noA := by
  refine ofBL (cc := cL_set) (maxL := 5) (ret := some .int) (by decide) rfl (Nat.le_of_ble_eq_true rfl) ?_
  intro p e s m below meth c hx hb hr hlocks hml hown hin hts hE hJ hKJ hI htab ls hl
  replace hown : s.vm.findClass RL = some m.cls := hown
  have hl : lv_has ls 5 [(0, .ref fe), (1, .int (nI s0)), (2, .int p1), (3, .ref ou)] := hl
  obtain ⟨hP, hD0⟩ := hI
  have hRv := xs_recv hE.1 hX hP
  obtain ⟨an, tn, sn, v0, v1, w, tf, tv0, tv1, tw, sv0, sv1, sw, ha, sv, ad, aa, vv0, vv1, ww, oa, co, rfl, hcp, hst, hcs, hcf, had⟩ := hX
  obtain ⟨ho, hos, hof, hold, hz, htx, hk01⟩ := hR
  have hs := okf_shp (by omega) ho
  have hsS := okf_shp (by omega) hos
  have hrg : ∀ k, k < 6 → Shp (ff k) := fun k hk => okf_shp (by omega) (hof k hk)
  have heok := eR_ok htx
  have hrt := rR_le (nn tx) len
  have hS : va_S noA s.heap s.heap [] := va_S.rf
  refine lv_aload_n hx hb dL_set_0 rfl (lv_at hl 3 rfl) ?_
  refine lv_iconst (v := nI 0) hx hb dL_set_1 (by decide +kernel) ?_
  refine lv_aload_n hx hb dL_set_2 rfl (lv_at hl 0 rfl) ?_
  refine lv_iload_n hx hb dL_set_3 rfl (lv_at hl 1 rfl) ?_
  refine lv_iload_n hx hb dL_set_4 rfl (lv_at hl 2 rfl) ?_
  refine xcall (vx_runV (As := [.int (nI s0), .int p1]) (rest := [.int (nI 0), .ref ou]) ⟨hx, hb, hml, hown, hts⟩ (c_X5_set_e2 l hlt G fe s0 p1 hs3 hNo) (cwV 2 hts gL_set_X5_set rfl rfl rfl (by decide +kernel) ⟨Nat.le_of_ble_eq_true rfl, Nat.le_of_ble_eq_true rfl⟩) (PJ.preV hE hJ hRv P_nil) rfl rfl hl.1 rfl (lv_room (Nat.le_of_ble_eq_true rfl)) dL_set_5 ⟨Nat.le_of_ble_eq_true rfl, Nat.le_of_ble_eq_true rfl⟩) hS (fun H locs xq ce hk hS hq hv hc => ?_)
  refine vx_catch hown [(⟨0, 10, 13, 13⟩ : ExceptionTableEntry)] (⟨0, 10, 17, 15⟩ : ExceptionTableEntry) [] (htab.trans rfl) (fun z hz => by
      simp only [List.mem_cons, List.not_mem_nil, or_false] at hz
      rcases hz with rfl
      · exact Or.inr ⟨by decide, "java/lang/IndexOutOfBoundsException", hts (.classLink RL 13 "java/lang/IndexOutOfBoundsException") (by decide +kernel), hJ.2.2.2.2.1.2.1⟩) (by decide) (by decide) (hts (.classLink RL 15 "java/lang/IllegalArgumentException") (by decide +kernel)) (va_Nw.use rfl (hJ.2.2.2.1 "java/lang/IllegalArgumentException" (by decide))) hq hv hc ?_
  refine lv_astore (lv' := [(4, .ref xq), (0, .ref fe), (1, .int (nI s0)), (2, .int p1), (3, .ref ou)]) hx hb dL_set_17 hl (by decide) rfl (fun ls hl => ?_)
  refine lv_iconst (v := nI 2) hx hb dL_set_19 (by decide +kernel) ?_
  exact W.iret hx hb hr (fun t ht hW => ⟨rfl, trivial, hS.F ht⟩) hS.2.2 dL_set_20
set_option maxHeartbeats 4000000 in
set_option maxRecDepth 100000 in
theorem CL_append_ok (l : Launch) (G : eG) (cJ : ClassId) {ou : Nat} {lo : Nat → Int64} {fe B : Nat} {f sf : Nat → Int32} {ff : Nat → Nat → Int32} {old sz len : Nat} {tx : Nat → Int32} {hsn : Int32} {WC : va_W} (hX : XS G fe f sf ff old sz len tx hsn WC) (hR : PR B f sf ff old sz len tx hsn) (hB : B < 700000000) (hln : len < 60) (q : Nat) (h1 : 33 ≤ q) (h2 : q ≤ 126) : Met l yL_append wsL_append ({ frames := 5, cells := 0, slots := 0, locals := 106 }) (PL [.ref fe, .int (nI q), .ref ou] G cJ (fun H => va_P G.1 vwCl ([(ou, .inl (cJ, 1, .inr (.inl lo)))] ++ WC) H ∧ va_D (fun _ => True) ([(ou, .inl (cJ, 1, .inr (.inl lo)))] ++ WC))) (MV (some (.int (nI 0))) (fun H => ∃ W', XS G fe f sf ff old sz (len + 1) (upd tx len (nI q)) hsn W' ∧ va_P G.1 vwCl ([(ou, .inl (cJ, 1, .inr (.inl (vp_updL lo 0 (((nI (len + 1))).toInt64)))))] ++ W') H ∧ va_D (inW ([(ou, .inl (cJ, 1, .inr (.inl lo)))] ++ WC)) ([(ou, .inl (cJ, 1, .inr (.inl (vp_updL lo 0 (((nI (len + 1))).toInt64)))))] ++ W')) (inW ([(ou, .inl (cJ, 1, .inr (.inl lo)))] ++ WC))) 0 0 (inW ([(ou, .inl (cJ, 1, .inr (.inl lo)))] ++ WC)) := by
  refine ofBL (cc := cL_append) (maxL := 4) (ret := some .int) (by decide) rfl (Nat.le_of_ble_eq_true rfl) ?_
  intro p e s m below meth c hx hb hr hlocks hml hown hin hts hE hJ hKJ hI htab ls hl
  replace hown : s.vm.findClass RL = some m.cls := hown
  have hl : lv_has ls 4 [(0, .ref fe), (1, .int (nI q)), (2, .ref ou)] := hl
  obtain ⟨hP, hD0⟩ := hI
  have hD : va_D (inW ([(ou, .inl (cJ, 1, .inr (.inl lo)))] ++ WC)) ([(ou, .inl (cJ, 1, .inr (.inl lo)))] ++ WC) := D_self hD0
  obtain ⟨A, hAe⟩ : ∃ A, A = inW ([(ou, .inl (cJ, 1, .inr (.inl lo)))] ++ WC) := ⟨_, rfl⟩
  rw [← hAe] at hD ⊢
  have hS : va_S A s.heap s.heap [] := va_S.rf
  obtain ⟨H, hHe⟩ : ∃ H, H = s.heap := ⟨_, rfl⟩
  obtain ⟨locs, hle⟩ : ∃ q : List Loc, q = [] := ⟨_, rfl⟩
  rw [← hle] at hS ⊢
  have hP : va_P G.1 vwCl (WC ++ [(ou, .inl (cJ, 1, .inr (.inl lo)))]) H := by rw [hHe]; exact P_perm List.perm_append_comm hP
  replace hD : va_D A (WC ++ [(ou, .inl (cJ, 1, .inr (.inl lo)))]) := D_perm List.perm_append_comm hD
  replace hS : va_S A s.heap H locs := by rw [hHe]; exact hS
  replace hJ : JX s H := by rw [hHe]; exact hJ
  refine tH hHe ?_
  refine lv_aload_n hx hb dL_append_0 rfl (lv_at hl 2 rfl) ?_
  refine lv_iconst (v := nI 0) hx hb dL_append_1 (by decide +kernel) ?_
  refine lv_aload_n hx hb dL_append_2 rfl (lv_at hl 0 rfl) ?_
  refine lv_iload_n hx hb dL_append_3 rfl (lv_at hl 1 rfl) ?_
  have hPc := P_pre hP
  have hDc := D_pre hD
  refine mcall (st1 := [.int (nI (len + 1)), .int (nI 0), .ref ou]) (va_runV (As := [.int (nI q)]) (rest := [.int (nI 0), .ref ou]) ⟨hx, hb, hml, hown, hts⟩ (CX_append_ok l G hX hR hB hln q h1 h2) (cwV 1 hts gL_append_X5_append rfl rfl rfl (by decide +kernel) ⟨Nat.le_of_ble_eq_true rfl, Nat.le_of_ble_eq_true rfl⟩) (PJ.preV hE hJ (xs_recv hE.1 hX hPc) ⟨hPc, hDc.weaken (fun _ _ _ _ => trivial)⟩) rfl rfl hl.1 rfl (lv_room (Nat.le_of_ble_eq_true rfl)) dL_append_4 ⟨Nat.zero_le _, Nat.zero_le _⟩) hS (fun q _ h => inW_D hDc q h) (fun q h => inW_D hDc q h) rfl (fun H1 locs1 hB9 hz1 hk1 hS => ?_)
  obtain ⟨W', hX', hP1, hD1⟩ := hB9
  obtain ⟨hP, hD⟩ := jnF (w1 := W') hP hD hk1 hP1 hD1
  generalize H1 = H at hP hS ⊢
  replace hP : va_P G.1 vwCl ([(ou, .inl (cJ, 1, .inr (.inl lo)))] ++ W') H := P_perm List.perm_append_comm hP
  replace hD : va_D A ([(ou, .inl (cJ, 1, .inr (.inl lo)))] ++ W') := D_perm List.perm_append_comm hD
  refine lv_i2l (v := ((nI (len + 1))).toInt64) hx hb dL_append_7 rfl ?_
  refine va_last hx hb hKJ hP hD hS 0 0 rfl rfl (vp_in_nI (n := 0) (N := 1) (by decide) (by decide)) dL_append_8 (fun H locs hP hD hS => ?_)
  rw [nI_clamp (by decide)] at hP hD
  refine lv_goto (tgt := 18) hx hb dL_append_9 (by decide) ?_
  refine lv_iconst (v := nI 0) hx hb dL_append_18 (by decide +kernel) ?_
  exact W.iret hx hb hr (fun t ht hW => ⟨rfl, by rw [ht]; exact ⟨W', hX', hP, hD⟩, hS.F ht⟩) hS.2.2 dL_append_19
set_option maxHeartbeats 4000000 in
set_option maxRecDepth 100000 in
theorem CL_append_e1 (l : Launch) (hlt : l.stackTraces = false) (G : eG) (cJ : ClassId) {ou : Nat} {fe B : Nat} {f sf : Nat → Int32} {ff : Nat → Nat → Int32} {old sz len : Nat} {tx : Nat → Int32} {hsn : Int32} {WC : va_W} (hX : XS G fe f sf ff old sz len tx hsn WC) (hR : PR B f sf ff old sz len tx hsn) (hB : B < 700000000) (p0 : Int32) (hNo : ¬ (nI 33 ≤ p0 ∧ p0 ≤ nI 126)) : Met l yL_append wsL_append ({ frames := 7, cells := 1, slots := 6, locals := 103 }) (PL [.ref fe, .int p0, .ref ou] G cJ (fun H => va_P G.1 vwCl WC H ∧ va_D (fun _ => True) WC)) (MV (some (.int (nI 1))) (fun _ => True) noA) 1 6 noA := by
  refine ofBL (cc := cL_append) (maxL := 4) (ret := some .int) (by decide) rfl (Nat.le_of_ble_eq_true rfl) ?_
  intro p e s m below meth c hx hb hr hlocks hml hown hin hts hE hJ hKJ hI htab ls hl
  replace hown : s.vm.findClass RL = some m.cls := hown
  have hl : lv_has ls 4 [(0, .ref fe), (1, .int p0), (2, .ref ou)] := hl
  obtain ⟨hP, hD0⟩ := hI
  have hRv := xs_recv hE.1 hX hP
  obtain ⟨an, tn, sn, v0, v1, w, tf, tv0, tv1, tw, sv0, sv1, sw, ha, sv, ad, aa, vv0, vv1, ww, oa, co, rfl, hcp, hst, hcs, hcf, had⟩ := hX
  obtain ⟨ho, hos, hof, hold, hz, htx, hk01⟩ := hR
  have hs := okf_shp (by omega) ho
  have hsS := okf_shp (by omega) hos
  have hrg : ∀ k, k < 6 → Shp (ff k) := fun k hk => okf_shp (by omega) (hof k hk)
  have heok := eR_ok htx
  have hrt := rR_le (nn tx) len
  have hS : va_S noA s.heap s.heap [] := va_S.rf
  refine lv_aload_n hx hb dL_append_0 rfl (lv_at hl 2 rfl) ?_
  refine lv_iconst (v := nI 0) hx hb dL_append_1 (by decide +kernel) ?_
  refine lv_aload_n hx hb dL_append_2 rfl (lv_at hl 0 rfl) ?_
  refine lv_iload_n hx hb dL_append_3 rfl (lv_at hl 1 rfl) ?_
  refine xcall (vx_runV (As := [.int p0]) (rest := [.int (nI 0), .ref ou]) ⟨hx, hb, hml, hown, hts⟩ (c_X5_append_e1 l hlt G fe p0 hNo) (cwV 1 hts gL_append_X5_append rfl rfl rfl (by decide +kernel) ⟨Nat.le_of_ble_eq_true rfl, Nat.le_of_ble_eq_true rfl⟩) (PJ.preV hE hJ hRv P_nil) rfl rfl hl.1 rfl (lv_room (Nat.le_of_ble_eq_true rfl)) dL_append_4 ⟨Nat.le_of_ble_eq_true rfl, Nat.le_of_ble_eq_true rfl⟩) hS (fun H locs xq ce hk hS hq hv hc => ?_)
  refine vx_catch hown [] (⟨0, 9, 12, 15⟩ : ExceptionTableEntry) [(⟨0, 9, 15, 20⟩ : ExceptionTableEntry)] (htab.trans rfl) (fun z hz => by cases hz) (by decide) (by decide) (hts (.classLink RL 15 "java/lang/IllegalArgumentException") (by decide +kernel)) (va_Nw.use rfl (hJ.2.2.2.1 "java/lang/IllegalArgumentException" (by decide))) hq hv hc ?_
  refine lv_astore_n (lv' := [(3, .ref xq), (0, .ref fe), (1, .int p0), (2, .ref ou)]) hx hb dL_append_12 rfl hl (by decide) rfl (fun ls hl => ?_)
  refine lv_iconst (v := nI 1) hx hb dL_append_13 (by decide +kernel) ?_
  exact W.iret hx hb hr (fun t ht hW => ⟨rfl, trivial, hS.F ht⟩) hS.2.2 dL_append_14
set_option maxHeartbeats 4000000 in
set_option maxRecDepth 100000 in
theorem CL_append_e2 (l : Launch) (hlt : l.stackTraces = false) (G : eG) (cJ : ClassId) {ou : Nat} {fe B : Nat} {f sf : Nat → Int32} {ff : Nat → Nat → Int32} {old sz len : Nat} {tx : Nat → Int32} {hsn : Int32} {WC : va_W} (hX : XS G fe f sf ff old sz len tx hsn WC) (hR : PR B f sf ff old sz len tx hsn) (hB : B < 700000000) (hlen : len = 60) (q : Nat) (h1 : 33 ≤ q) (h2 : q ≤ 126) : Met l yL_append wsL_append ({ frames := 7, cells := 1, slots := 6, locals := 103 }) (PL [.ref fe, .int (nI q), .ref ou] G cJ (fun H => va_P G.1 vwCl WC H ∧ va_D (fun _ => True) WC)) (MV (some (.int (nI 2))) (fun _ => True) noA) 1 6 noA := by
  refine ofBL (cc := cL_append) (maxL := 4) (ret := some .int) (by decide) rfl (Nat.le_of_ble_eq_true rfl) ?_
  intro p e s m below meth c hx hb hr hlocks hml hown hin hts hE hJ hKJ hI htab ls hl
  replace hown : s.vm.findClass RL = some m.cls := hown
  have hl : lv_has ls 4 [(0, .ref fe), (1, .int (nI q)), (2, .ref ou)] := hl
  obtain ⟨hP, hD0⟩ := hI
  have hRv := xs_recv hE.1 hX hP
  obtain ⟨an, tn, sn, v0, v1, w, tf, tv0, tv1, tw, sv0, sv1, sw, ha, sv, ad, aa, vv0, vv1, ww, oa, co, rfl, hcp, hst, hcs, hcf, had⟩ := hX
  obtain ⟨ho, hos, hof, hold, hz, htx, hk01⟩ := hR
  have hs := okf_shp (by omega) ho
  have hsS := okf_shp (by omega) hos
  have hrg : ∀ k, k < 6 → Shp (ff k) := fun k hk => okf_shp (by omega) (hof k hk)
  have heok := eR_ok htx
  have hrt := rR_le (nn tx) len
  have hS : va_S noA s.heap s.heap [] := va_S.rf
  refine lv_aload_n hx hb dL_append_0 rfl (lv_at hl 2 rfl) ?_
  refine lv_iconst (v := nI 0) hx hb dL_append_1 (by decide +kernel) ?_
  refine lv_aload_n hx hb dL_append_2 rfl (lv_at hl 0 rfl) ?_
  refine lv_iload_n hx hb dL_append_3 rfl (lv_at hl 1 rfl) ?_
  refine xcall (vx_runV (As := [.int (nI q)]) (rest := [.int (nI 0), .ref ou]) ⟨hx, hb, hml, hown, hts⟩ (c_X5_append_e2 l hlt G fe (tn 0) (sn 0) ha hsn an oa co len (rR (nn tx) len) (eR (nn tx) len) tx hlen q h1 h2) (cwV 1 hts gL_append_X5_append rfl rfl rfl (by decide +kernel) ⟨Nat.le_of_ble_eq_true rfl, Nat.le_of_ble_eq_true rfl⟩) (PJ.preV hE hJ hRv (P_pre (P_perm pm_FO hP))) rfl rfl hl.1 rfl (lv_room (Nat.le_of_ble_eq_true rfl)) dL_append_4 ⟨Nat.le_of_ble_eq_true rfl, Nat.le_of_ble_eq_true rfl⟩) hS (fun H locs xq ce hk hS hq hv hc => ?_)
  refine vx_catch hown [(⟨0, 9, 12, 15⟩ : ExceptionTableEntry)] (⟨0, 9, 15, 20⟩ : ExceptionTableEntry) [] (htab.trans rfl) (fun z hz => by
      simp only [List.mem_cons, List.not_mem_nil, or_false] at hz
      rcases hz with rfl
      · exact Or.inr ⟨by decide, "java/lang/IllegalArgumentException", hts (.classLink RL 15 "java/lang/IllegalArgumentException") (by decide +kernel), hJ.2.2.2.2.1.2.2.2⟩) (by decide) (by decide) (hts (.classLink RL 20 "java/lang/IllegalStateException") (by decide +kernel)) (va_Nw.use rfl (hJ.2.2.2.1 "java/lang/IllegalStateException" (by decide))) hq hv hc ?_
  refine lv_astore_n (lv' := [(3, .ref xq), (0, .ref fe), (1, .int (nI q)), (2, .ref ou)]) hx hb dL_append_15 rfl hl (by decide) rfl (fun ls hl => ?_)
  refine lv_iconst (v := nI 2) hx hb dL_append_16 (by decide +kernel) ?_
  exact W.iret hx hb hr (fun t ht hW => ⟨rfl, trivial, hS.F ht⟩) hS.2.2 dL_append_17
set_option maxHeartbeats 4000000 in
set_option maxRecDepth 100000 in
theorem CL_obey_ok (l : Launch) (G : eG) (cJ : ClassId) {ou : Nat} {lo : Nat → Int64} {fe B : Nat} {f sf : Nat → Int32} {ff : Nat → Nat → Int32} {old sz len : Nat} {tx : Nat → Int32} {hsn : Int32} {WC : va_W} (hX : XS G fe f sf ff old sz len tx hsn WC) (hR : PR B f sf ff old sz len tx hsn) (hB : B < 700000000) (hW : pW (nn tx) len (len + 1) 0 = true) (hcE : eCp (eR (nn tx) len) = true) : Met l yL_obey wsL_obey ({ frames := 7, cells := 0, slots := 0, locals := 161 }) (PL [.ref fe, .ref ou] G cJ (fun H => va_P G.1 vwCl ([(ou, .inl (cJ, 1, .inr (.inl lo)))] ++ WC) H ∧ va_D (fun _ => True) ([(ou, .inl (cJ, 1, .inr (.inl lo)))] ++ WC))) (MV (some (.int (nI 0))) (fun H => ∃ W', XS G fe (yF (nn tx) len len 0 f) sf (rgS ff (hAt old sz) f) (hOld old sz) (svM sz) 0 tx hsn W' ∧ va_P G.1 vwCl ([(ou, .inl (cJ, 1, .inr (.inl (vp_updL lo 0 (((nI (yC (nn tx) len len 0 f))).toInt64)))))] ++ W') H ∧ va_D (inW ([(ou, .inl (cJ, 1, .inr (.inl lo)))] ++ WC)) ([(ou, .inl (cJ, 1, .inr (.inl (vp_updL lo 0 (((nI (yC (nn tx) len len 0 f))).toInt64)))))] ++ W')) (inW ([(ou, .inl (cJ, 1, .inr (.inl lo)))] ++ WC))) 0 0 (inW ([(ou, .inl (cJ, 1, .inr (.inl lo)))] ++ WC)) := by
  refine ofBL (cc := cL_obey) (maxL := 3) (ret := some .int) (by decide) rfl (Nat.le_of_ble_eq_true rfl) ?_
  intro p e s m below meth c hx hb hr hlocks hml hown hin hts hE hJ hKJ hI htab ls hl
  replace hown : s.vm.findClass RL = some m.cls := hown
  have hl : lv_has ls 3 [(0, .ref fe), (1, .ref ou)] := hl
  obtain ⟨hP, hD0⟩ := hI
  have hD : va_D (inW ([(ou, .inl (cJ, 1, .inr (.inl lo)))] ++ WC)) ([(ou, .inl (cJ, 1, .inr (.inl lo)))] ++ WC) := D_self hD0
  obtain ⟨A, hAe⟩ : ∃ A, A = inW ([(ou, .inl (cJ, 1, .inr (.inl lo)))] ++ WC) := ⟨_, rfl⟩
  rw [← hAe] at hD ⊢
  have hS : va_S A s.heap s.heap [] := va_S.rf
  obtain ⟨H, hHe⟩ : ∃ H, H = s.heap := ⟨_, rfl⟩
  obtain ⟨locs, hle⟩ : ∃ q : List Loc, q = [] := ⟨_, rfl⟩
  rw [← hle] at hS ⊢
  have hP : va_P G.1 vwCl (WC ++ [(ou, .inl (cJ, 1, .inr (.inl lo)))]) H := by rw [hHe]; exact P_perm List.perm_append_comm hP
  replace hD : va_D A (WC ++ [(ou, .inl (cJ, 1, .inr (.inl lo)))]) := D_perm List.perm_append_comm hD
  replace hS : va_S A s.heap H locs := by rw [hHe]; exact hS
  replace hJ : JX s H := by rw [hHe]; exact hJ
  refine tH hHe ?_
  refine lv_aload_n hx hb dL_obey_0 rfl (lv_at hl 1 rfl) ?_
  refine lv_iconst (v := nI 0) hx hb dL_obey_1 (by decide +kernel) ?_
  refine lv_aload_n hx hb dL_obey_2 rfl (lv_at hl 0 rfl) ?_
  have hPc := P_pre hP
  have hDc := D_pre hD
  refine mcall (st1 := [.int (nI (yC (nn tx) len len 0 f)), .int (nI 0), .ref ou]) (va_runV (As := []) (rest := [.int (nI 0), .ref ou]) ⟨hx, hb, hml, hown, hts⟩ (CX_obey_ok l G hX hR hB hW hcE) (cwV 0 hts gL_obey_X5_obey rfl rfl rfl (by decide +kernel) ⟨Nat.le_of_ble_eq_true rfl, Nat.le_of_ble_eq_true rfl⟩) (PJ.preV hE hJ (xs_recv hE.1 hX hPc) ⟨hPc, hDc.weaken (fun _ _ _ _ => trivial)⟩) rfl rfl hl.1 rfl (lv_room (Nat.le_of_ble_eq_true rfl)) dL_obey_3 ⟨Nat.zero_le _, Nat.zero_le _⟩) hS (fun q _ h => inW_D hDc q h) (fun q h => inW_D hDc q h) rfl (fun H1 locs1 hB9 hz1 hk1 hS => ?_)
  obtain ⟨W', hX', hP1, hD1⟩ := hB9
  obtain ⟨hP, hD⟩ := jnF (w1 := W') hP hD hk1 hP1 hD1
  generalize H1 = H at hP hS ⊢
  replace hP : va_P G.1 vwCl ([(ou, .inl (cJ, 1, .inr (.inl lo)))] ++ W') H := P_perm List.perm_append_comm hP
  replace hD : va_D A ([(ou, .inl (cJ, 1, .inr (.inl lo)))] ++ W') := D_perm List.perm_append_comm hD
  refine lv_i2l (v := ((nI (yC (nn tx) len len 0 f))).toInt64) hx hb dL_obey_6 rfl ?_
  refine va_last hx hb hKJ hP hD hS 0 0 rfl rfl (vp_in_nI (n := 0) (N := 1) (by decide) (by decide)) dL_obey_7 (fun H locs hP hD hS => ?_)
  rw [nI_clamp (by decide)] at hP hD
  refine lv_goto (tgt := 14) hx hb dL_obey_8 (by decide) ?_
  refine lv_iconst (v := nI 0) hx hb dL_obey_14 (by decide +kernel) ?_
  exact W.iret hx hb hr (fun t ht hW => ⟨rfl, by rw [ht]; exact ⟨W', hX', hP, hD⟩, hS.F ht⟩) hS.2.2 dL_obey_15
set_option maxHeartbeats 4000000 in
set_option maxRecDepth 100000 in
theorem CL_obey_e1 (l : Launch) (hlt : l.stackTraces = false) (G : eG) (cJ : ClassId) {ou : Nat} {fe B : Nat} {f sf : Nat → Int32} {ff : Nat → Nat → Int32} {old sz len : Nat} {tx : Nat → Int32} {hsn : Int32} {WC : va_W} (hX : XS G fe f sf ff old sz len tx hsn WC) (hR : PR B f sf ff old sz len tx hsn) (hB : B < 700000000) (hno : ¬ eCp (eR (nn tx) len) = true) : Met l yL_obey wsL_obey ({ frames := 7, cells := 1, slots := 6, locals := 103 }) (PL [.ref fe, .ref ou] G cJ (fun H => va_P G.1 vwCl WC H ∧ va_D (fun _ => True) WC)) (MV (some (.int (nI 1))) (fun _ => True) noA) 1 6 noA := by
  refine ofBL (cc := cL_obey) (maxL := 3) (ret := some .int) (by decide) rfl (Nat.le_of_ble_eq_true rfl) ?_
  intro p e s m below meth c hx hb hr hlocks hml hown hin hts hE hJ hKJ hI htab ls hl
  replace hown : s.vm.findClass RL = some m.cls := hown
  have hl : lv_has ls 3 [(0, .ref fe), (1, .ref ou)] := hl
  obtain ⟨hP, hD0⟩ := hI
  have hRv := xs_recv hE.1 hX hP
  obtain ⟨an, tn, sn, v0, v1, w, tf, tv0, tv1, tw, sv0, sv1, sw, ha, sv, ad, aa, vv0, vv1, ww, oa, co, rfl, hcp, hst, hcs, hcf, had⟩ := hX
  obtain ⟨ho, hos, hof, hold, hz, htx, hk01⟩ := hR
  have hs := okf_shp (by omega) ho
  have hsS := okf_shp (by omega) hos
  have hrg : ∀ k, k < 6 → Shp (ff k) := fun k hk => okf_shp (by omega) (hof k hk)
  have heok := eR_ok htx
  have hrt := rR_le (nn tx) len
  have hS : va_S noA s.heap s.heap [] := va_S.rf
  refine lv_aload_n hx hb dL_obey_0 rfl (lv_at hl 1 rfl) ?_
  refine lv_iconst (v := nI 0) hx hb dL_obey_1 (by decide +kernel) ?_
  refine lv_aload_n hx hb dL_obey_2 rfl (lv_at hl 0 rfl) ?_
  refine xcall (vx_runV (As := []) (rest := [.int (nI 0), .ref ou]) ⟨hx, hb, hml, hown, hts⟩ (c_X5_obey_e1 l hlt G fe (tn 0) (sn 0) ha hsn an oa co len (rR (nn tx) len) (eR (nn tx) len) tx heok hno) (cwV 0 hts gL_obey_X5_obey rfl rfl rfl (by decide +kernel) ⟨Nat.le_of_ble_eq_true rfl, Nat.le_of_ble_eq_true rfl⟩) (PJ.preV hE hJ hRv (P_pre (P_perm pm_FO hP))) rfl rfl hl.1 rfl (lv_room (Nat.le_of_ble_eq_true rfl)) dL_obey_3 ⟨Nat.le_of_ble_eq_true rfl, Nat.le_of_ble_eq_true rfl⟩) hS (fun H locs xq ce hk hS hq hv hc => ?_)
  refine vx_catch hown [] (⟨0, 8, 11, 15⟩ : ExceptionTableEntry) [] (htab.trans rfl) (fun z hz => by cases hz) (by decide) (by decide) (hts (.classLink RL 15 "java/lang/IllegalArgumentException") (by decide +kernel)) (va_Nw.use rfl (hJ.2.2.2.1 "java/lang/IllegalArgumentException" (by decide))) hq hv hc ?_
  refine lv_astore_n (lv' := [(2, .ref xq), (0, .ref fe), (1, .ref ou)]) hx hb dL_obey_11 rfl hl (by decide) rfl (fun ls hl => ?_)
  refine lv_iconst (v := nI 1) hx hb dL_obey_12 (by decide +kernel) ?_
  exact W.iret hx hb hr (fun t ht hW => ⟨rfl, trivial, hS.F ht⟩) hS.2.2 dL_obey_13
set_option maxHeartbeats 4000000 in
set_option maxRecDepth 100000 in
theorem CL_goBack_ok (l : Launch) (G : eG) (cJ : ClassId) {ou : Nat} {lo : Nat → Int64} {fe B : Nat} {f sf : Nat → Int32} {ff : Nat → Nat → Int32} {old sz len : Nat} {tx : Nat → Int32} {WC : va_W} (hX : XS G fe f sf ff old sz len tx (nI 1) WC) (hR : PR B f sf ff old sz len tx (nI 1)) (hB : B < 700000000) : Met l yL_goBack wsL_goBack ({ frames := 6, cells := 0, slots := 0, locals := 145 }) (PL [.ref fe, .ref ou] G cJ (fun H => va_P G.1 vwCl ([(ou, .inl (cJ, 1, .inr (.inl lo)))] ++ WC) H ∧ va_D (fun _ => True) ([(ou, .inl (cJ, 1, .inr (.inl lo)))] ++ WC))) (MV (some (.int (nI 0))) (fun H => ∃ W', XS G fe sf sf (rgS ff (hAt old sz) f) (hOld old sz) (svM sz) len tx (nI 1) W' ∧ va_P G.1 vwCl ([(ou, .inl (cJ, 1, .inr (.inl (vp_updL lo 0 (((sf 50)).toInt64)))))] ++ W') H ∧ va_D (inW ([(ou, .inl (cJ, 1, .inr (.inl lo)))] ++ WC)) ([(ou, .inl (cJ, 1, .inr (.inl (vp_updL lo 0 (((sf 50)).toInt64)))))] ++ W')) (inW ([(ou, .inl (cJ, 1, .inr (.inl lo)))] ++ WC))) 0 0 (inW ([(ou, .inl (cJ, 1, .inr (.inl lo)))] ++ WC)) := by
  refine ofBL (cc := cL_goBack) (maxL := 3) (ret := some .int) (by decide) rfl (Nat.le_of_ble_eq_true rfl) ?_
  intro p e s m below meth c hx hb hr hlocks hml hown hin hts hE hJ hKJ hI htab ls hl
  replace hown : s.vm.findClass RL = some m.cls := hown
  have hl : lv_has ls 3 [(0, .ref fe), (1, .ref ou)] := hl
  obtain ⟨hP, hD0⟩ := hI
  have hD : va_D (inW ([(ou, .inl (cJ, 1, .inr (.inl lo)))] ++ WC)) ([(ou, .inl (cJ, 1, .inr (.inl lo)))] ++ WC) := D_self hD0
  obtain ⟨A, hAe⟩ : ∃ A, A = inW ([(ou, .inl (cJ, 1, .inr (.inl lo)))] ++ WC) := ⟨_, rfl⟩
  rw [← hAe] at hD ⊢
  have hS : va_S A s.heap s.heap [] := va_S.rf
  obtain ⟨H, hHe⟩ : ∃ H, H = s.heap := ⟨_, rfl⟩
  obtain ⟨locs, hle⟩ : ∃ q : List Loc, q = [] := ⟨_, rfl⟩
  rw [← hle] at hS ⊢
  have hP : va_P G.1 vwCl (WC ++ [(ou, .inl (cJ, 1, .inr (.inl lo)))]) H := by rw [hHe]; exact P_perm List.perm_append_comm hP
  replace hD : va_D A (WC ++ [(ou, .inl (cJ, 1, .inr (.inl lo)))]) := D_perm List.perm_append_comm hD
  replace hS : va_S A s.heap H locs := by rw [hHe]; exact hS
  replace hJ : JX s H := by rw [hHe]; exact hJ
  refine tH hHe ?_
  refine lv_aload_n hx hb dL_goBack_0 rfl (lv_at hl 1 rfl) ?_
  refine lv_iconst (v := nI 0) hx hb dL_goBack_1 (by decide +kernel) ?_
  refine lv_aload_n hx hb dL_goBack_2 rfl (lv_at hl 0 rfl) ?_
  have hPc := P_pre hP
  have hDc := D_pre hD
  refine mcall (st1 := [.int (sf 50), .int (nI 0), .ref ou]) (va_runV (As := []) (rest := [.int (nI 0), .ref ou]) ⟨hx, hb, hml, hown, hts⟩ (CX_goBack_ok l G hX hR hB ) (cwV 0 hts gL_goBack_X5_goBack rfl rfl rfl (by decide +kernel) ⟨Nat.le_of_ble_eq_true rfl, Nat.le_of_ble_eq_true rfl⟩) (PJ.preV hE hJ (xs_recv hE.1 hX hPc) ⟨hPc, hDc.weaken (fun _ _ _ _ => trivial)⟩) rfl rfl hl.1 rfl (lv_room (Nat.le_of_ble_eq_true rfl)) dL_goBack_3 ⟨Nat.zero_le _, Nat.zero_le _⟩) hS (fun q _ h => inW_D hDc q h) (fun q h => inW_D hDc q h) rfl (fun H1 locs1 hB9 hz1 hk1 hS => ?_)
  obtain ⟨W', hX', hP1, hD1⟩ := hB9
  obtain ⟨hP, hD⟩ := jnF (w1 := W') hP hD hk1 hP1 hD1
  generalize H1 = H at hP hS ⊢
  replace hP : va_P G.1 vwCl ([(ou, .inl (cJ, 1, .inr (.inl lo)))] ++ W') H := P_perm List.perm_append_comm hP
  replace hD : va_D A ([(ou, .inl (cJ, 1, .inr (.inl lo)))] ++ W') := D_perm List.perm_append_comm hD
  refine lv_i2l (v := ((sf 50)).toInt64) hx hb dL_goBack_6 rfl ?_
  refine va_last hx hb hKJ hP hD hS 0 0 rfl rfl (vp_in_nI (n := 0) (N := 1) (by decide) (by decide)) dL_goBack_7 (fun H locs hP hD hS => ?_)
  rw [nI_clamp (by decide)] at hP hD
  refine lv_goto (tgt := 14) hx hb dL_goBack_8 (by decide) ?_
  refine lv_iconst (v := nI 0) hx hb dL_goBack_14 (by decide +kernel) ?_
  exact W.iret hx hb hr (fun t ht hW => ⟨rfl, by rw [ht]; exact ⟨W', hX', hP, hD⟩, hS.F ht⟩) hS.2.2 dL_goBack_15
set_option maxHeartbeats 4000000 in
set_option maxRecDepth 100000 in
theorem CL_goBack_e1 (l : Launch) (hlt : l.stackTraces = false) (G : eG) (cJ : ClassId) {ou : Nat} {fe B : Nat} {f sf : Nat → Int32} {ff : Nat → Nat → Int32} {old sz len : Nat} {tx : Nat → Int32} {WC : va_W} (hX : XS G fe f sf ff old sz len tx (nI 0) WC) (hR : PR B f sf ff old sz len tx (nI 0)) (hB : B < 700000000) : Met l yL_goBack wsL_goBack ({ frames := 7, cells := 1, slots := 6, locals := 102 }) (PL [.ref fe, .ref ou] G cJ (fun H => va_P G.1 vwCl WC H ∧ va_D (fun _ => True) WC)) (MV (some (.int (nI 1))) (fun _ => True) noA) 1 6 noA := by
  refine ofBL (cc := cL_goBack) (maxL := 3) (ret := some .int) (by decide) rfl (Nat.le_of_ble_eq_true rfl) ?_
  intro p e s m below meth c hx hb hr hlocks hml hown hin hts hE hJ hKJ hI htab ls hl
  replace hown : s.vm.findClass RL = some m.cls := hown
  have hl : lv_has ls 3 [(0, .ref fe), (1, .ref ou)] := hl
  obtain ⟨hP, hD0⟩ := hI
  have hRv := xs_recv hE.1 hX hP
  obtain ⟨an, tn, sn, v0, v1, w, tf, tv0, tv1, tw, sv0, sv1, sw, ha, sv, ad, aa, vv0, vv1, ww, oa, co, rfl, hcp, hst, hcs, hcf, had⟩ := hX
  obtain ⟨ho, hos, hof, hold, hz, htx, hk01⟩ := hR
  have hs := okf_shp (by omega) ho
  have hsS := okf_shp (by omega) hos
  have hrg : ∀ k, k < 6 → Shp (ff k) := fun k hk => okf_shp (by omega) (hof k hk)
  have heok := eR_ok htx
  have hrt := rR_le (nn tx) len
  have hS : va_S noA s.heap s.heap [] := va_S.rf
  refine lv_aload_n hx hb dL_goBack_0 rfl (lv_at hl 1 rfl) ?_
  refine lv_iconst (v := nI 0) hx hb dL_goBack_1 (by decide +kernel) ?_
  refine lv_aload_n hx hb dL_goBack_2 rfl (lv_at hl 0 rfl) ?_
  refine xcall (vx_runV (As := []) (rest := [.int (nI 0), .ref ou]) ⟨hx, hb, hml, hown, hts⟩ (c_X5_goBack_e1 l hlt G fe (tn 0) (sn 0) ha oa an) (cwV 0 hts gL_goBack_X5_goBack rfl rfl rfl (by decide +kernel) ⟨Nat.le_of_ble_eq_true rfl, Nat.le_of_ble_eq_true rfl⟩) (PJ.preV hE hJ hRv (P_pre (P_perm pm_F hP))) rfl rfl hl.1 rfl (lv_room (Nat.le_of_ble_eq_true rfl)) dL_goBack_3 ⟨Nat.le_of_ble_eq_true rfl, Nat.le_of_ble_eq_true rfl⟩) hS (fun H locs xq ce hk hS hq hv hc => ?_)
  refine vx_catch hown [] (⟨0, 8, 11, 20⟩ : ExceptionTableEntry) [] (htab.trans rfl) (fun z hz => by cases hz) (by decide) (by decide) (hts (.classLink RL 20 "java/lang/IllegalStateException") (by decide +kernel)) (va_Nw.use rfl (hJ.2.2.2.1 "java/lang/IllegalStateException" (by decide))) hq hv hc ?_
  refine lv_astore_n (lv' := [(2, .ref xq), (0, .ref fe), (1, .ref ou)]) hx hb dL_goBack_11 rfl hl (by decide) rfl (fun ls hl => ?_)
  refine lv_iconst (v := nI 1) hx hb dL_goBack_12 (by decide +kernel) ?_
  exact W.iret hx hb hr (fun t ht hW => ⟨rfl, trivial, hS.F ht⟩) hS.2.2 dL_goBack_13
set_option maxHeartbeats 4000000 in
set_option maxRecDepth 100000 in
theorem CL_undo_ok (l : Launch) (G : eG) (cJ : ClassId) {ou : Nat} {lo : Nat → Int64} {fe B : Nat} {f sf : Nat → Int32} {ff : Nat → Nat → Int32} {old sz len : Nat} {tx : Nat → Int32} {hsn : Int32} {WC : va_W} (hX : XS G fe f sf ff old sz len tx hsn WC) (hR : PR B f sf ff old sz len tx hsn) (hB : B < 700000000) (hz1 : 1 ≤ sz) : Met l yL_undo wsL_undo ({ frames := 6, cells := 0, slots := 0, locals := 145 }) (PL [.ref fe, .ref ou] G cJ (fun H => va_P G.1 vwCl ([(ou, .inl (cJ, 1, .inr (.inl lo)))] ++ WC) H ∧ va_D (fun _ => True) ([(ou, .inl (cJ, 1, .inr (.inl lo)))] ++ WC))) (MV (some (.int (nI 0))) (fun H => ∃ W', XS G fe (ff (hBk old sz)) sf ff old (sz - 1) len tx hsn W' ∧ va_P G.1 vwCl ([(ou, .inl (cJ, 1, .inr (.inl (vp_updL lo 0 (((nI (sz - 1))).toInt64)))))] ++ W') H ∧ va_D (inW ([(ou, .inl (cJ, 1, .inr (.inl lo)))] ++ WC)) ([(ou, .inl (cJ, 1, .inr (.inl (vp_updL lo 0 (((nI (sz - 1))).toInt64)))))] ++ W')) (inW ([(ou, .inl (cJ, 1, .inr (.inl lo)))] ++ WC))) 0 0 (inW ([(ou, .inl (cJ, 1, .inr (.inl lo)))] ++ WC)) := by
  refine ofBL (cc := cL_undo) (maxL := 3) (ret := some .int) (by decide) rfl (Nat.le_of_ble_eq_true rfl) ?_
  intro p e s m below meth c hx hb hr hlocks hml hown hin hts hE hJ hKJ hI htab ls hl
  replace hown : s.vm.findClass RL = some m.cls := hown
  have hl : lv_has ls 3 [(0, .ref fe), (1, .ref ou)] := hl
  obtain ⟨hP, hD0⟩ := hI
  have hD : va_D (inW ([(ou, .inl (cJ, 1, .inr (.inl lo)))] ++ WC)) ([(ou, .inl (cJ, 1, .inr (.inl lo)))] ++ WC) := D_self hD0
  obtain ⟨A, hAe⟩ : ∃ A, A = inW ([(ou, .inl (cJ, 1, .inr (.inl lo)))] ++ WC) := ⟨_, rfl⟩
  rw [← hAe] at hD ⊢
  have hS : va_S A s.heap s.heap [] := va_S.rf
  obtain ⟨H, hHe⟩ : ∃ H, H = s.heap := ⟨_, rfl⟩
  obtain ⟨locs, hle⟩ : ∃ q : List Loc, q = [] := ⟨_, rfl⟩
  rw [← hle] at hS ⊢
  have hP : va_P G.1 vwCl (WC ++ [(ou, .inl (cJ, 1, .inr (.inl lo)))]) H := by rw [hHe]; exact P_perm List.perm_append_comm hP
  replace hD : va_D A (WC ++ [(ou, .inl (cJ, 1, .inr (.inl lo)))]) := D_perm List.perm_append_comm hD
  replace hS : va_S A s.heap H locs := by rw [hHe]; exact hS
  replace hJ : JX s H := by rw [hHe]; exact hJ
  refine tH hHe ?_
  refine lv_aload_n hx hb dL_undo_0 rfl (lv_at hl 1 rfl) ?_
  refine lv_iconst (v := nI 0) hx hb dL_undo_1 (by decide +kernel) ?_
  refine lv_aload_n hx hb dL_undo_2 rfl (lv_at hl 0 rfl) ?_
  have hPc := P_pre hP
  have hDc := D_pre hD
  refine mcall (st1 := [.int (nI (sz - 1)), .int (nI 0), .ref ou]) (va_runV (As := []) (rest := [.int (nI 0), .ref ou]) ⟨hx, hb, hml, hown, hts⟩ (CX_undo_ok l G hX hR hB hz1) (cwV 0 hts gL_undo_X5_undo rfl rfl rfl (by decide +kernel) ⟨Nat.le_of_ble_eq_true rfl, Nat.le_of_ble_eq_true rfl⟩) (PJ.preV hE hJ (xs_recv hE.1 hX hPc) ⟨hPc, hDc.weaken (fun _ _ _ _ => trivial)⟩) rfl rfl hl.1 rfl (lv_room (Nat.le_of_ble_eq_true rfl)) dL_undo_3 ⟨Nat.zero_le _, Nat.zero_le _⟩) hS (fun q _ h => inW_D hDc q h) (fun q h => inW_D hDc q h) rfl (fun H1 locs1 hB9 hz1 hk1 hS => ?_)
  obtain ⟨W', hX', hP1, hD1⟩ := hB9
  obtain ⟨hP, hD⟩ := jnF (w1 := W') hP hD hk1 hP1 hD1
  generalize H1 = H at hP hS ⊢
  replace hP : va_P G.1 vwCl ([(ou, .inl (cJ, 1, .inr (.inl lo)))] ++ W') H := P_perm List.perm_append_comm hP
  replace hD : va_D A ([(ou, .inl (cJ, 1, .inr (.inl lo)))] ++ W') := D_perm List.perm_append_comm hD
  refine lv_i2l (v := ((nI (sz - 1))).toInt64) hx hb dL_undo_6 rfl ?_
  refine va_last hx hb hKJ hP hD hS 0 0 rfl rfl (vp_in_nI (n := 0) (N := 1) (by decide) (by decide)) dL_undo_7 (fun H locs hP hD hS => ?_)
  rw [nI_clamp (by decide)] at hP hD
  refine lv_goto (tgt := 14) hx hb dL_undo_8 (by decide) ?_
  refine lv_iconst (v := nI 0) hx hb dL_undo_14 (by decide +kernel) ?_
  exact W.iret hx hb hr (fun t ht hW => ⟨rfl, by rw [ht]; exact ⟨W', hX', hP, hD⟩, hS.F ht⟩) hS.2.2 dL_undo_15
set_option maxHeartbeats 4000000 in
set_option maxRecDepth 100000 in
theorem CL_undo_e1 (l : Launch) (hlt : l.stackTraces = false) (G : eG) (cJ : ClassId) {ou : Nat} {fe B : Nat} {f sf : Nat → Int32} {ff : Nat → Nat → Int32} {old sz len : Nat} {tx : Nat → Int32} {hsn : Int32} {WC : va_W} (hX : XS G fe f sf ff old sz len tx hsn WC) (hR : PR B f sf ff old sz len tx hsn) (hB : B < 700000000) (hz0 : sz = 0) : Met l yL_undo wsL_undo ({ frames := 7, cells := 1, slots := 6, locals := 102 }) (PL [.ref fe, .ref ou] G cJ (fun H => va_P G.1 vwCl WC H ∧ va_D (fun _ => True) WC)) (MV (some (.int (nI 1))) (fun _ => True) noA) 1 6 noA := by
  refine ofBL (cc := cL_undo) (maxL := 3) (ret := some .int) (by decide) rfl (Nat.le_of_ble_eq_true rfl) ?_
  intro p e s m below meth c hx hb hr hlocks hml hown hin hts hE hJ hKJ hI htab ls hl
  replace hown : s.vm.findClass RL = some m.cls := hown
  have hl : lv_has ls 3 [(0, .ref fe), (1, .ref ou)] := hl
  obtain ⟨hP, hD0⟩ := hI
  have hRv := xs_recv hE.1 hX hP
  obtain ⟨an, tn, sn, v0, v1, w, tf, tv0, tv1, tw, sv0, sv1, sw, ha, sv, ad, aa, vv0, vv1, ww, oa, co, rfl, hcp, hst, hcs, hcf, had⟩ := hX
  obtain ⟨ho, hos, hof, hold, hz, htx, hk01⟩ := hR
  have hs := okf_shp (by omega) ho
  have hsS := okf_shp (by omega) hos
  have hrg : ∀ k, k < 6 → Shp (ff k) := fun k hk => okf_shp (by omega) (hof k hk)
  have heok := eR_ok htx
  have hrt := rR_le (nn tx) len
  have hS : va_S noA s.heap s.heap [] := va_S.rf
  refine lv_aload_n hx hb dL_undo_0 rfl (lv_at hl 1 rfl) ?_
  refine lv_iconst (v := nI 0) hx hb dL_undo_1 (by decide +kernel) ?_
  refine lv_aload_n hx hb dL_undo_2 rfl (lv_at hl 0 rfl) ?_
  refine xcall (vx_runV (As := []) (rest := [.int (nI 0), .ref ou]) ⟨hx, hb, hml, hown, hts⟩ (c_X5_undo_e1 l hlt G fe (tn 0) (sn 0) ha oa hsn an sv old sz ad hz0) (cwV 0 hts gL_undo_X5_undo rfl rfl rfl (by decide +kernel) ⟨Nat.le_of_ble_eq_true rfl, Nat.le_of_ble_eq_true rfl⟩) (PJ.preV hE hJ hRv (P_pre (P_perm pm_FH hP))) rfl rfl hl.1 rfl (lv_room (Nat.le_of_ble_eq_true rfl)) dL_undo_3 ⟨Nat.le_of_ble_eq_true rfl, Nat.le_of_ble_eq_true rfl⟩) hS (fun H locs xq ce hk hS hq hv hc => ?_)
  refine vx_catch hown [] (⟨0, 8, 11, 20⟩ : ExceptionTableEntry) [] (htab.trans rfl) (fun z hz => by cases hz) (by decide) (by decide) (hts (.classLink RL 20 "java/lang/IllegalStateException") (by decide +kernel)) (va_Nw.use rfl (hJ.2.2.2.1 "java/lang/IllegalStateException" (by decide))) hq hv hc ?_
  refine lv_astore_n (lv' := [(2, .ref xq), (0, .ref fe), (1, .ref ou)]) hx hb dL_undo_11 rfl hl (by decide) rfl (fun ls hl => ?_)
  refine lv_iconst (v := nI 1) hx hb dL_undo_12 (by decide +kernel) ?_
  exact W.iret hx hb hr (fun t ht hW => ⟨rfl, trivial, hS.F ht⟩) hS.2.2 dL_undo_13
set_option maxHeartbeats 4000000 in
set_option maxRecDepth 100000 in
theorem CL_section_ok (l : Launch) (G : eG) (cJ : ClassId) {ou : Nat} {lo : Nat → Int64} {fe B : Nat} {f sf : Nat → Int32} {ff : Nat → Nat → Int32} {old sz len : Nat} {tx : Nat → Int32} {hsn : Int32} {WC : va_W} (hX : XS G fe f sf ff old sz len tx hsn WC) (hR : PR B f sf ff old sz len tx hsn) (hB : B < 700000000) (k : Nat) (x : Nat) (hk : k < 20) (hw : x < 3) : Met l yL_section wsL_section ({ frames := 4, cells := 0, slots := 0, locals := 90 }) (PL [.ref fe, .int (nI k), .int (nI x), .ref ou] G cJ (fun H => va_P G.1 vwCl ([(ou, .inl (cJ, 1, .inr (.inl lo)))] ++ WC) H ∧ va_D (fun _ => True) ([(ou, .inl (cJ, 1, .inr (.inl lo)))] ++ WC))) (MV (some (.int (nI 0))) (fun H => ∃ W', XS G fe f sf ff old sz len tx hsn W' ∧ va_P G.1 vwCl ([(ou, .inl (cJ, 1, .inr (.inl (vp_updL lo 0 (((fOf f k x)).toInt64)))))] ++ W') H ∧ va_D (inW ([(ou, .inl (cJ, 1, .inr (.inl lo)))] ++ WC)) ([(ou, .inl (cJ, 1, .inr (.inl (vp_updL lo 0 (((fOf f k x)).toInt64)))))] ++ W')) (inW ([(ou, .inl (cJ, 1, .inr (.inl lo)))] ++ WC))) 0 0 (inW ([(ou, .inl (cJ, 1, .inr (.inl lo)))] ++ WC)) := by
  refine ofBL (cc := cL_section) (maxL := 5) (ret := some .int) (by decide) rfl (Nat.le_of_ble_eq_true rfl) ?_
  intro p e s m below meth c hx hb hr hlocks hml hown hin hts hE hJ hKJ hI htab ls hl
  replace hown : s.vm.findClass RL = some m.cls := hown
  have hl : lv_has ls 5 [(0, .ref fe), (1, .int (nI k)), (2, .int (nI x)), (3, .ref ou)] := hl
  obtain ⟨hP, hD0⟩ := hI
  have hD : va_D (inW ([(ou, .inl (cJ, 1, .inr (.inl lo)))] ++ WC)) ([(ou, .inl (cJ, 1, .inr (.inl lo)))] ++ WC) := D_self hD0
  obtain ⟨A, hAe⟩ : ∃ A, A = inW ([(ou, .inl (cJ, 1, .inr (.inl lo)))] ++ WC) := ⟨_, rfl⟩
  rw [← hAe] at hD ⊢
  have hS : va_S A s.heap s.heap [] := va_S.rf
  obtain ⟨H, hHe⟩ : ∃ H, H = s.heap := ⟨_, rfl⟩
  obtain ⟨locs, hle⟩ : ∃ q : List Loc, q = [] := ⟨_, rfl⟩
  rw [← hle] at hS ⊢
  have hP : va_P G.1 vwCl (WC ++ [(ou, .inl (cJ, 1, .inr (.inl lo)))]) H := by rw [hHe]; exact P_perm List.perm_append_comm hP
  replace hD : va_D A (WC ++ [(ou, .inl (cJ, 1, .inr (.inl lo)))]) := D_perm List.perm_append_comm hD
  replace hS : va_S A s.heap H locs := by rw [hHe]; exact hS
  replace hJ : JX s H := by rw [hHe]; exact hJ
  refine tH hHe ?_
  refine lv_aload_n hx hb dL_section_0 rfl (lv_at hl 3 rfl) ?_
  refine lv_iconst (v := nI 0) hx hb dL_section_1 (by decide +kernel) ?_
  refine lv_aload_n hx hb dL_section_2 rfl (lv_at hl 0 rfl) ?_
  refine lv_iload_n hx hb dL_section_3 rfl (lv_at hl 1 rfl) ?_
  refine lv_iload_n hx hb dL_section_4 rfl (lv_at hl 2 rfl) ?_
  have hPc := P_pre hP
  have hDc := D_pre hD
  refine mcall (st1 := [.int (fOf f k x), .int (nI 0), .ref ou]) (va_runV (As := [.int (nI k), .int (nI x)]) (rest := [.int (nI 0), .ref ou]) ⟨hx, hb, hml, hown, hts⟩ (CX_section_ok l G hX hR hB k x hk hw) (cwV 2 hts gL_section_X5_section rfl rfl rfl (by decide +kernel) ⟨Nat.le_of_ble_eq_true rfl, Nat.le_of_ble_eq_true rfl⟩) (PJ.preV hE hJ (xs_recv hE.1 hX hPc) ⟨hPc, hDc.weaken (fun _ _ _ _ => trivial)⟩) rfl rfl hl.1 rfl (lv_room (Nat.le_of_ble_eq_true rfl)) dL_section_5 ⟨Nat.zero_le _, Nat.zero_le _⟩) hS (fun q _ h => inW_D hDc q h) (fun q h => inW_D hDc q h) rfl (fun H1 locs1 hB9 hz1 hk1 hS => ?_)
  obtain ⟨W', hX', hP1, hD1⟩ := hB9
  obtain ⟨hP, hD⟩ := jnF (w1 := W') hP hD hk1 hP1 hD1
  generalize H1 = H at hP hS ⊢
  replace hP : va_P G.1 vwCl ([(ou, .inl (cJ, 1, .inr (.inl lo)))] ++ W') H := P_perm List.perm_append_comm hP
  replace hD : va_D A ([(ou, .inl (cJ, 1, .inr (.inl lo)))] ++ W') := D_perm List.perm_append_comm hD
  refine lv_i2l (v := ((fOf f k x)).toInt64) hx hb dL_section_8 rfl ?_
  refine va_last hx hb hKJ hP hD hS 0 0 rfl rfl (vp_in_nI (n := 0) (N := 1) (by decide) (by decide)) dL_section_9 (fun H locs hP hD hS => ?_)
  rw [nI_clamp (by decide)] at hP hD
  refine lv_goto (tgt := 21) hx hb dL_section_10 (by decide) ?_
  refine lv_iconst (v := nI 0) hx hb dL_section_21 (by decide +kernel) ?_
  exact W.iret hx hb hr (fun t ht hW => ⟨rfl, by rw [ht]; exact ⟨W', hX', hP, hD⟩, hS.F ht⟩) hS.2.2 dL_section_22
set_option maxHeartbeats 4000000 in
set_option maxRecDepth 100000 in
theorem CL_section_e1 (l : Launch) (hlt : l.stackTraces = false) (G : eG) (cJ : ClassId) {ou : Nat} {fe B : Nat} {f sf : Nat → Int32} {ff : Nat → Nat → Int32} {old sz len : Nat} {tx : Nat → Int32} {hsn : Int32} {WC : va_W} (hX : XS G fe f sf ff old sz len tx hsn WC) (hR : PR B f sf ff old sz len tx hsn) (hB : B < 700000000) (p0 : Int32) (p1 : Int32) (hNo : ¬ (nI 0 ≤ p0 ∧ p0 ≤ nI 19)) : Met l yL_section wsL_section ({ frames := 7, cells := 1, slots := 6, locals := 104 }) (PL [.ref fe, .int p0, .int p1, .ref ou] G cJ (fun H => va_P G.1 vwCl WC H ∧ va_D (fun _ => True) WC)) (MV (some (.int (nI 1))) (fun _ => True) noA) 1 6 noA := by
  refine ofBL (cc := cL_section) (maxL := 5) (ret := some .int) (by decide) rfl (Nat.le_of_ble_eq_true rfl) ?_
  intro p e s m below meth c hx hb hr hlocks hml hown hin hts hE hJ hKJ hI htab ls hl
  replace hown : s.vm.findClass RL = some m.cls := hown
  have hl : lv_has ls 5 [(0, .ref fe), (1, .int p0), (2, .int p1), (3, .ref ou)] := hl
  obtain ⟨hP, hD0⟩ := hI
  have hRv := xs_recv hE.1 hX hP
  obtain ⟨an, tn, sn, v0, v1, w, tf, tv0, tv1, tw, sv0, sv1, sw, ha, sv, ad, aa, vv0, vv1, ww, oa, co, rfl, hcp, hst, hcs, hcf, had⟩ := hX
  obtain ⟨ho, hos, hof, hold, hz, htx, hk01⟩ := hR
  have hs := okf_shp (by omega) ho
  have hsS := okf_shp (by omega) hos
  have hrg : ∀ k, k < 6 → Shp (ff k) := fun k hk => okf_shp (by omega) (hof k hk)
  have heok := eR_ok htx
  have hrt := rR_le (nn tx) len
  have hS : va_S noA s.heap s.heap [] := va_S.rf
  refine lv_aload_n hx hb dL_section_0 rfl (lv_at hl 3 rfl) ?_
  refine lv_iconst (v := nI 0) hx hb dL_section_1 (by decide +kernel) ?_
  refine lv_aload_n hx hb dL_section_2 rfl (lv_at hl 0 rfl) ?_
  refine lv_iload_n hx hb dL_section_3 rfl (lv_at hl 1 rfl) ?_
  refine lv_iload_n hx hb dL_section_4 rfl (lv_at hl 2 rfl) ?_
  refine xcall (vx_runV (As := [.int p0, .int p1]) (rest := [.int (nI 0), .ref ou]) ⟨hx, hb, hml, hown, hts⟩ (c_X5_section_e1 l hlt G fe p0 p1 hNo) (cwV 2 hts gL_section_X5_section rfl rfl rfl (by decide +kernel) ⟨Nat.le_of_ble_eq_true rfl, Nat.le_of_ble_eq_true rfl⟩) (PJ.preV hE hJ hRv P_nil) rfl rfl hl.1 rfl (lv_room (Nat.le_of_ble_eq_true rfl)) dL_section_5 ⟨Nat.le_of_ble_eq_true rfl, Nat.le_of_ble_eq_true rfl⟩) hS (fun H locs xq ce hk hS hq hv hc => ?_)
  refine vx_catch hown [] (⟨0, 10, 13, 13⟩ : ExceptionTableEntry) [(⟨0, 10, 17, 15⟩ : ExceptionTableEntry)] (htab.trans rfl) (fun z hz => by cases hz) (by decide) (by decide) (hts (.classLink RL 13 "java/lang/IndexOutOfBoundsException") (by decide +kernel)) (va_Nw.use rfl (hJ.2.2.2.1 "java/lang/IndexOutOfBoundsException" (by decide))) hq hv hc ?_
  refine lv_astore (lv' := [(4, .ref xq), (0, .ref fe), (1, .int p0), (2, .int p1), (3, .ref ou)]) hx hb dL_section_13 hl (by decide) rfl (fun ls hl => ?_)
  refine lv_iconst (v := nI 1) hx hb dL_section_15 (by decide +kernel) ?_
  exact W.iret hx hb hr (fun t ht hW => ⟨rfl, trivial, hS.F ht⟩) hS.2.2 dL_section_16
set_option maxHeartbeats 4000000 in
set_option maxRecDepth 100000 in
theorem CL_section_e2 (l : Launch) (hlt : l.stackTraces = false) (G : eG) (cJ : ClassId) {ou : Nat} {fe B : Nat} {f sf : Nat → Int32} {ff : Nat → Nat → Int32} {old sz len : Nat} {tx : Nat → Int32} {hsn : Int32} {WC : va_W} (hX : XS G fe f sf ff old sz len tx hsn WC) (hR : PR B f sf ff old sz len tx hsn) (hB : B < 700000000) (p0 : Int32) (p1 : Int32) (h1 : nI 0 ≤ p0 ∧ p0 ≤ nI 19) (hNo : ¬ (nI 0 ≤ p1 ∧ p1 ≤ nI 2)) : Met l yL_section wsL_section ({ frames := 7, cells := 1, slots := 6, locals := 104 }) (PL [.ref fe, .int p0, .int p1, .ref ou] G cJ (fun H => va_P G.1 vwCl WC H ∧ va_D (fun _ => True) WC)) (MV (some (.int (nI 2))) (fun _ => True) noA) 1 6 noA := by
  refine ofBL (cc := cL_section) (maxL := 5) (ret := some .int) (by decide) rfl (Nat.le_of_ble_eq_true rfl) ?_
  intro p e s m below meth c hx hb hr hlocks hml hown hin hts hE hJ hKJ hI htab ls hl
  replace hown : s.vm.findClass RL = some m.cls := hown
  have hl : lv_has ls 5 [(0, .ref fe), (1, .int p0), (2, .int p1), (3, .ref ou)] := hl
  obtain ⟨hP, hD0⟩ := hI
  have hRv := xs_recv hE.1 hX hP
  obtain ⟨an, tn, sn, v0, v1, w, tf, tv0, tv1, tw, sv0, sv1, sw, ha, sv, ad, aa, vv0, vv1, ww, oa, co, rfl, hcp, hst, hcs, hcf, had⟩ := hX
  obtain ⟨ho, hos, hof, hold, hz, htx, hk01⟩ := hR
  have hs := okf_shp (by omega) ho
  have hsS := okf_shp (by omega) hos
  have hrg : ∀ k, k < 6 → Shp (ff k) := fun k hk => okf_shp (by omega) (hof k hk)
  have heok := eR_ok htx
  have hrt := rR_le (nn tx) len
  have hS : va_S noA s.heap s.heap [] := va_S.rf
  refine lv_aload_n hx hb dL_section_0 rfl (lv_at hl 3 rfl) ?_
  refine lv_iconst (v := nI 0) hx hb dL_section_1 (by decide +kernel) ?_
  refine lv_aload_n hx hb dL_section_2 rfl (lv_at hl 0 rfl) ?_
  refine lv_iload_n hx hb dL_section_3 rfl (lv_at hl 1 rfl) ?_
  refine lv_iload_n hx hb dL_section_4 rfl (lv_at hl 2 rfl) ?_
  refine xcall (vx_runV (As := [.int p0, .int p1]) (rest := [.int (nI 0), .ref ou]) ⟨hx, hb, hml, hown, hts⟩ (c_X5_section_e2 l hlt G fe p0 p1 h1 hNo) (cwV 2 hts gL_section_X5_section rfl rfl rfl (by decide +kernel) ⟨Nat.le_of_ble_eq_true rfl, Nat.le_of_ble_eq_true rfl⟩) (PJ.preV hE hJ hRv P_nil) rfl rfl hl.1 rfl (lv_room (Nat.le_of_ble_eq_true rfl)) dL_section_5 ⟨Nat.le_of_ble_eq_true rfl, Nat.le_of_ble_eq_true rfl⟩) hS (fun H locs xq ce hk hS hq hv hc => ?_)
  refine vx_catch hown [(⟨0, 10, 13, 13⟩ : ExceptionTableEntry)] (⟨0, 10, 17, 15⟩ : ExceptionTableEntry) [] (htab.trans rfl) (fun z hz => by
      simp only [List.mem_cons, List.not_mem_nil, or_false] at hz
      rcases hz with rfl
      · exact Or.inr ⟨by decide, "java/lang/IndexOutOfBoundsException", hts (.classLink RL 13 "java/lang/IndexOutOfBoundsException") (by decide +kernel), hJ.2.2.2.2.1.2.1⟩) (by decide) (by decide) (hts (.classLink RL 15 "java/lang/IllegalArgumentException") (by decide +kernel)) (va_Nw.use rfl (hJ.2.2.2.1 "java/lang/IllegalArgumentException" (by decide))) hq hv hc ?_
  refine lv_astore (lv' := [(4, .ref xq), (0, .ref fe), (1, .int p0), (2, .int p1), (3, .ref ou)]) hx hb dL_section_17 hl (by decide) rfl (fun ls hl => ?_)
  refine lv_iconst (v := nI 2) hx hb dL_section_19 (by decide +kernel) ?_
  exact W.iret hx hb hr (fun t ht hW => ⟨rfl, trivial, hS.F ht⟩) hS.2.2 dL_section_20
set_option maxHeartbeats 4000000 in
set_option maxRecDepth 100000 in
theorem CL_waiting_in (l : Launch) (G : eG) (cJ : ClassId) {ou : Nat} {lo : Nat → Int64} {fe B : Nat} {f sf : Nat → Int32} {ff : Nat → Nat → Int32} {old sz len : Nat} {tx : Nat → Int32} {hsn : Int32} {WC : va_W} (hX : XS G fe f sf ff old sz len tx hsn WC) (hR : PR B f sf ff old sz len tx hsn) (hB : B < 700000000) (b : Nat) (j : Nat) (hb2 : b < 2) (hj : j < 2147483648) (hjq : j < nn f (57 + 11 * b)) : Met l yL_waiting wsL_waiting ({ frames := 3, cells := 0, slots := 0, locals := 64 }) (PL [.ref fe, .int (nI b), .int (nI j), .ref ou] G cJ (fun H => va_P G.1 vwCl ([(ou, .inl (cJ, 1, .inr (.inl lo)))] ++ WC) H ∧ va_D (fun _ => True) ([(ou, .inl (cJ, 1, .inr (.inl lo)))] ++ WC))) (MV (some (.int (nI 0))) (fun H => ∃ W', XS G fe f sf ff old sz len tx hsn W' ∧ va_P G.1 vwCl ([(ou, .inl (cJ, 1, .inr (.inl (vp_updL lo 0 (((f (((57 + (11 * b)) + 1) + j))).toInt64)))))] ++ W') H ∧ va_D (inW ([(ou, .inl (cJ, 1, .inr (.inl lo)))] ++ WC)) ([(ou, .inl (cJ, 1, .inr (.inl (vp_updL lo 0 (((f (((57 + (11 * b)) + 1) + j))).toInt64)))))] ++ W')) (inW ([(ou, .inl (cJ, 1, .inr (.inl lo)))] ++ WC))) 0 0 (inW ([(ou, .inl (cJ, 1, .inr (.inl lo)))] ++ WC)) := by
  refine ofBL (cc := cL_waiting) (maxL := 5) (ret := some .int) (by decide) rfl (Nat.le_of_ble_eq_true rfl) ?_
  intro p e s m below meth c hx hb hr hlocks hml hown hin hts hE hJ hKJ hI htab ls hl
  replace hown : s.vm.findClass RL = some m.cls := hown
  have hl : lv_has ls 5 [(0, .ref fe), (1, .int (nI b)), (2, .int (nI j)), (3, .ref ou)] := hl
  obtain ⟨hP, hD0⟩ := hI
  have hD : va_D (inW ([(ou, .inl (cJ, 1, .inr (.inl lo)))] ++ WC)) ([(ou, .inl (cJ, 1, .inr (.inl lo)))] ++ WC) := D_self hD0
  obtain ⟨A, hAe⟩ : ∃ A, A = inW ([(ou, .inl (cJ, 1, .inr (.inl lo)))] ++ WC) := ⟨_, rfl⟩
  rw [← hAe] at hD ⊢
  have hS : va_S A s.heap s.heap [] := va_S.rf
  obtain ⟨H, hHe⟩ : ∃ H, H = s.heap := ⟨_, rfl⟩
  obtain ⟨locs, hle⟩ : ∃ q : List Loc, q = [] := ⟨_, rfl⟩
  rw [← hle] at hS ⊢
  have hP : va_P G.1 vwCl (WC ++ [(ou, .inl (cJ, 1, .inr (.inl lo)))]) H := by rw [hHe]; exact P_perm List.perm_append_comm hP
  replace hD : va_D A (WC ++ [(ou, .inl (cJ, 1, .inr (.inl lo)))]) := D_perm List.perm_append_comm hD
  replace hS : va_S A s.heap H locs := by rw [hHe]; exact hS
  replace hJ : JX s H := by rw [hHe]; exact hJ
  refine tH hHe ?_
  refine lv_aload_n hx hb dL_waiting_0 rfl (lv_at hl 3 rfl) ?_
  refine lv_iconst (v := nI 0) hx hb dL_waiting_1 (by decide +kernel) ?_
  refine lv_aload_n hx hb dL_waiting_2 rfl (lv_at hl 0 rfl) ?_
  refine lv_iload_n hx hb dL_waiting_3 rfl (lv_at hl 1 rfl) ?_
  refine lv_iload_n hx hb dL_waiting_4 rfl (lv_at hl 2 rfl) ?_
  have hPc := P_pre hP
  have hDc := D_pre hD
  refine mcall (st1 := [.int (f (((57 + (11 * b)) + 1) + j)), .int (nI 0), .ref ou]) (va_runV (As := [.int (nI b), .int (nI j)]) (rest := [.int (nI 0), .ref ou]) ⟨hx, hb, hml, hown, hts⟩ (CX_waiting_in l G hX hR hB b j hb2 hj hjq) (cwV 2 hts gL_waiting_X5_waiting rfl rfl rfl (by decide +kernel) ⟨Nat.le_of_ble_eq_true rfl, Nat.le_of_ble_eq_true rfl⟩) (PJ.preV hE hJ (xs_recv hE.1 hX hPc) ⟨hPc, hDc.weaken (fun _ _ _ _ => trivial)⟩) rfl rfl hl.1 rfl (lv_room (Nat.le_of_ble_eq_true rfl)) dL_waiting_5 ⟨Nat.zero_le _, Nat.zero_le _⟩) hS (fun q _ h => inW_D hDc q h) (fun q h => inW_D hDc q h) rfl (fun H1 locs1 hB9 hz1 hk1 hS => ?_)
  obtain ⟨W', hX', hP1, hD1⟩ := hB9
  obtain ⟨hP, hD⟩ := jnF (w1 := W') hP hD hk1 hP1 hD1
  generalize H1 = H at hP hS ⊢
  replace hP : va_P G.1 vwCl ([(ou, .inl (cJ, 1, .inr (.inl lo)))] ++ W') H := P_perm List.perm_append_comm hP
  replace hD : va_D A ([(ou, .inl (cJ, 1, .inr (.inl lo)))] ++ W') := D_perm List.perm_append_comm hD
  refine lv_i2l (v := ((f (((57 + (11 * b)) + 1) + j))).toInt64) hx hb dL_waiting_8 rfl ?_
  refine va_last hx hb hKJ hP hD hS 0 0 rfl rfl (vp_in_nI (n := 0) (N := 1) (by decide) (by decide)) dL_waiting_9 (fun H locs hP hD hS => ?_)
  rw [nI_clamp (by decide)] at hP hD
  refine lv_goto (tgt := 21) hx hb dL_waiting_10 (by decide) ?_
  refine lv_iconst (v := nI 0) hx hb dL_waiting_21 (by decide +kernel) ?_
  exact W.iret hx hb hr (fun t ht hW => ⟨rfl, by rw [ht]; exact ⟨W', hX', hP, hD⟩, hS.F ht⟩) hS.2.2 dL_waiting_22
set_option maxHeartbeats 4000000 in
set_option maxRecDepth 100000 in
theorem CL_waiting_out (l : Launch) (G : eG) (cJ : ClassId) {ou : Nat} {lo : Nat → Int64} {fe B : Nat} {f sf : Nat → Int32} {ff : Nat → Nat → Int32} {old sz len : Nat} {tx : Nat → Int32} {hsn : Int32} {WC : va_W} (hX : XS G fe f sf ff old sz len tx hsn WC) (hR : PR B f sf ff old sz len tx hsn) (hB : B < 700000000) (b : Nat) (j : Nat) (hb2 : b < 2) (hj : j < 2147483648) (hjq : nn f (57 + 11 * b) ≤ j) : Met l yL_waiting wsL_waiting ({ frames := 2, cells := 0, slots := 0, locals := 44 }) (PL [.ref fe, .int (nI b), .int (nI j), .ref ou] G cJ (fun H => va_P G.1 vwCl ([(ou, .inl (cJ, 1, .inr (.inl lo)))] ++ WC) H ∧ va_D (fun _ => True) ([(ou, .inl (cJ, 1, .inr (.inl lo)))] ++ WC))) (MV (some (.int (nI 0))) (fun H => ∃ W', XS G fe f sf ff old sz len tx hsn W' ∧ va_P G.1 vwCl ([(ou, .inl (cJ, 1, .inr (.inl (vp_updL lo 0 ((((-1))).toInt64)))))] ++ W') H ∧ va_D (inW ([(ou, .inl (cJ, 1, .inr (.inl lo)))] ++ WC)) ([(ou, .inl (cJ, 1, .inr (.inl (vp_updL lo 0 ((((-1))).toInt64)))))] ++ W')) (inW ([(ou, .inl (cJ, 1, .inr (.inl lo)))] ++ WC))) 0 0 (inW ([(ou, .inl (cJ, 1, .inr (.inl lo)))] ++ WC)) := by
  refine ofBL (cc := cL_waiting) (maxL := 5) (ret := some .int) (by decide) rfl (Nat.le_of_ble_eq_true rfl) ?_
  intro p e s m below meth c hx hb hr hlocks hml hown hin hts hE hJ hKJ hI htab ls hl
  replace hown : s.vm.findClass RL = some m.cls := hown
  have hl : lv_has ls 5 [(0, .ref fe), (1, .int (nI b)), (2, .int (nI j)), (3, .ref ou)] := hl
  obtain ⟨hP, hD0⟩ := hI
  have hD : va_D (inW ([(ou, .inl (cJ, 1, .inr (.inl lo)))] ++ WC)) ([(ou, .inl (cJ, 1, .inr (.inl lo)))] ++ WC) := D_self hD0
  obtain ⟨A, hAe⟩ : ∃ A, A = inW ([(ou, .inl (cJ, 1, .inr (.inl lo)))] ++ WC) := ⟨_, rfl⟩
  rw [← hAe] at hD ⊢
  have hS : va_S A s.heap s.heap [] := va_S.rf
  obtain ⟨H, hHe⟩ : ∃ H, H = s.heap := ⟨_, rfl⟩
  obtain ⟨locs, hle⟩ : ∃ q : List Loc, q = [] := ⟨_, rfl⟩
  rw [← hle] at hS ⊢
  have hP : va_P G.1 vwCl (WC ++ [(ou, .inl (cJ, 1, .inr (.inl lo)))]) H := by rw [hHe]; exact P_perm List.perm_append_comm hP
  replace hD : va_D A (WC ++ [(ou, .inl (cJ, 1, .inr (.inl lo)))]) := D_perm List.perm_append_comm hD
  replace hS : va_S A s.heap H locs := by rw [hHe]; exact hS
  replace hJ : JX s H := by rw [hHe]; exact hJ
  refine tH hHe ?_
  refine lv_aload_n hx hb dL_waiting_0 rfl (lv_at hl 3 rfl) ?_
  refine lv_iconst (v := nI 0) hx hb dL_waiting_1 (by decide +kernel) ?_
  refine lv_aload_n hx hb dL_waiting_2 rfl (lv_at hl 0 rfl) ?_
  refine lv_iload_n hx hb dL_waiting_3 rfl (lv_at hl 1 rfl) ?_
  refine lv_iload_n hx hb dL_waiting_4 rfl (lv_at hl 2 rfl) ?_
  have hPc := P_pre hP
  have hDc := D_pre hD
  refine mcall (st1 := [.int ((-1)), .int (nI 0), .ref ou]) (va_runV (As := [.int (nI b), .int (nI j)]) (rest := [.int (nI 0), .ref ou]) ⟨hx, hb, hml, hown, hts⟩ (CX_waiting_out l G hX hR hB b j hb2 hj hjq) (cwV 2 hts gL_waiting_X5_waiting rfl rfl rfl (by decide +kernel) ⟨Nat.le_of_ble_eq_true rfl, Nat.le_of_ble_eq_true rfl⟩) (PJ.preV hE hJ (xs_recv hE.1 hX hPc) ⟨hPc, hDc.weaken (fun _ _ _ _ => trivial)⟩) rfl rfl hl.1 rfl (lv_room (Nat.le_of_ble_eq_true rfl)) dL_waiting_5 ⟨Nat.zero_le _, Nat.zero_le _⟩) hS (fun q _ h => inW_D hDc q h) (fun q h => inW_D hDc q h) rfl (fun H1 locs1 hB9 hz1 hk1 hS => ?_)
  obtain ⟨W', hX', hP1, hD1⟩ := hB9
  obtain ⟨hP, hD⟩ := jnF (w1 := W') hP hD hk1 hP1 hD1
  generalize H1 = H at hP hS ⊢
  replace hP : va_P G.1 vwCl ([(ou, .inl (cJ, 1, .inr (.inl lo)))] ++ W') H := P_perm List.perm_append_comm hP
  replace hD : va_D A ([(ou, .inl (cJ, 1, .inr (.inl lo)))] ++ W') := D_perm List.perm_append_comm hD
  refine lv_i2l (v := (((-1))).toInt64) hx hb dL_waiting_8 rfl ?_
  refine va_last hx hb hKJ hP hD hS 0 0 rfl rfl (vp_in_nI (n := 0) (N := 1) (by decide) (by decide)) dL_waiting_9 (fun H locs hP hD hS => ?_)
  rw [nI_clamp (by decide)] at hP hD
  refine lv_goto (tgt := 21) hx hb dL_waiting_10 (by decide) ?_
  refine lv_iconst (v := nI 0) hx hb dL_waiting_21 (by decide +kernel) ?_
  exact W.iret hx hb hr (fun t ht hW => ⟨rfl, by rw [ht]; exact ⟨W', hX', hP, hD⟩, hS.F ht⟩) hS.2.2 dL_waiting_22
set_option maxHeartbeats 4000000 in
set_option maxRecDepth 100000 in
theorem CL_waiting_e1 (l : Launch) (hlt : l.stackTraces = false) (G : eG) (cJ : ClassId) {ou : Nat} {fe B : Nat} {f sf : Nat → Int32} {ff : Nat → Nat → Int32} {old sz len : Nat} {tx : Nat → Int32} {hsn : Int32} {WC : va_W} (hX : XS G fe f sf ff old sz len tx hsn WC) (hR : PR B f sf ff old sz len tx hsn) (hB : B < 700000000) (p0 : Int32) (p1 : Int32) (hNo : ¬ (nI 0 ≤ p0 ∧ p0 ≤ nI 1)) : Met l yL_waiting wsL_waiting ({ frames := 7, cells := 1, slots := 6, locals := 104 }) (PL [.ref fe, .int p0, .int p1, .ref ou] G cJ (fun H => va_P G.1 vwCl WC H ∧ va_D (fun _ => True) WC)) (MV (some (.int (nI 1))) (fun _ => True) noA) 1 6 noA := by
  refine ofBL (cc := cL_waiting) (maxL := 5) (ret := some .int) (by decide) rfl (Nat.le_of_ble_eq_true rfl) ?_
  intro p e s m below meth c hx hb hr hlocks hml hown hin hts hE hJ hKJ hI htab ls hl
  replace hown : s.vm.findClass RL = some m.cls := hown
  have hl : lv_has ls 5 [(0, .ref fe), (1, .int p0), (2, .int p1), (3, .ref ou)] := hl
  obtain ⟨hP, hD0⟩ := hI
  have hRv := xs_recv hE.1 hX hP
  obtain ⟨an, tn, sn, v0, v1, w, tf, tv0, tv1, tw, sv0, sv1, sw, ha, sv, ad, aa, vv0, vv1, ww, oa, co, rfl, hcp, hst, hcs, hcf, had⟩ := hX
  obtain ⟨ho, hos, hof, hold, hz, htx, hk01⟩ := hR
  have hs := okf_shp (by omega) ho
  have hsS := okf_shp (by omega) hos
  have hrg : ∀ k, k < 6 → Shp (ff k) := fun k hk => okf_shp (by omega) (hof k hk)
  have heok := eR_ok htx
  have hrt := rR_le (nn tx) len
  have hS : va_S noA s.heap s.heap [] := va_S.rf
  refine lv_aload_n hx hb dL_waiting_0 rfl (lv_at hl 3 rfl) ?_
  refine lv_iconst (v := nI 0) hx hb dL_waiting_1 (by decide +kernel) ?_
  refine lv_aload_n hx hb dL_waiting_2 rfl (lv_at hl 0 rfl) ?_
  refine lv_iload_n hx hb dL_waiting_3 rfl (lv_at hl 1 rfl) ?_
  refine lv_iload_n hx hb dL_waiting_4 rfl (lv_at hl 2 rfl) ?_
  refine xcall (vx_runV (As := [.int p0, .int p1]) (rest := [.int (nI 0), .ref ou]) ⟨hx, hb, hml, hown, hts⟩ (c_X5_waiting_e1 l hlt G fe p0 p1 hNo) (cwV 2 hts gL_waiting_X5_waiting rfl rfl rfl (by decide +kernel) ⟨Nat.le_of_ble_eq_true rfl, Nat.le_of_ble_eq_true rfl⟩) (PJ.preV hE hJ hRv P_nil) rfl rfl hl.1 rfl (lv_room (Nat.le_of_ble_eq_true rfl)) dL_waiting_5 ⟨Nat.le_of_ble_eq_true rfl, Nat.le_of_ble_eq_true rfl⟩) hS (fun H locs xq ce hk hS hq hv hc => ?_)
  refine vx_catch hown [] (⟨0, 10, 13, 13⟩ : ExceptionTableEntry) [(⟨0, 10, 17, 15⟩ : ExceptionTableEntry)] (htab.trans rfl) (fun z hz => by cases hz) (by decide) (by decide) (hts (.classLink RL 13 "java/lang/IndexOutOfBoundsException") (by decide +kernel)) (va_Nw.use rfl (hJ.2.2.2.1 "java/lang/IndexOutOfBoundsException" (by decide))) hq hv hc ?_
  refine lv_astore (lv' := [(4, .ref xq), (0, .ref fe), (1, .int p0), (2, .int p1), (3, .ref ou)]) hx hb dL_waiting_13 hl (by decide) rfl (fun ls hl => ?_)
  refine lv_iconst (v := nI 1) hx hb dL_waiting_15 (by decide +kernel) ?_
  exact W.iret hx hb hr (fun t ht hW => ⟨rfl, trivial, hS.F ht⟩) hS.2.2 dL_waiting_16
set_option maxHeartbeats 4000000 in
set_option maxRecDepth 100000 in
theorem CL_waiting_e2 (l : Launch) (hlt : l.stackTraces = false) (G : eG) (cJ : ClassId) {ou : Nat} {fe B : Nat} {f sf : Nat → Int32} {ff : Nat → Nat → Int32} {old sz len : Nat} {tx : Nat → Int32} {hsn : Int32} {WC : va_W} (hX : XS G fe f sf ff old sz len tx hsn WC) (hR : PR B f sf ff old sz len tx hsn) (hB : B < 700000000) (p0 : Int32) (p1 : Int32) (h1 : nI 0 ≤ p0 ∧ p0 ≤ nI 1) (hNo : ¬ 0 ≤ p1) : Met l yL_waiting wsL_waiting ({ frames := 7, cells := 1, slots := 6, locals := 104 }) (PL [.ref fe, .int p0, .int p1, .ref ou] G cJ (fun H => va_P G.1 vwCl WC H ∧ va_D (fun _ => True) WC)) (MV (some (.int (nI 2))) (fun _ => True) noA) 1 6 noA := by
  refine ofBL (cc := cL_waiting) (maxL := 5) (ret := some .int) (by decide) rfl (Nat.le_of_ble_eq_true rfl) ?_
  intro p e s m below meth c hx hb hr hlocks hml hown hin hts hE hJ hKJ hI htab ls hl
  replace hown : s.vm.findClass RL = some m.cls := hown
  have hl : lv_has ls 5 [(0, .ref fe), (1, .int p0), (2, .int p1), (3, .ref ou)] := hl
  obtain ⟨hP, hD0⟩ := hI
  have hRv := xs_recv hE.1 hX hP
  obtain ⟨an, tn, sn, v0, v1, w, tf, tv0, tv1, tw, sv0, sv1, sw, ha, sv, ad, aa, vv0, vv1, ww, oa, co, rfl, hcp, hst, hcs, hcf, had⟩ := hX
  obtain ⟨ho, hos, hof, hold, hz, htx, hk01⟩ := hR
  have hs := okf_shp (by omega) ho
  have hsS := okf_shp (by omega) hos
  have hrg : ∀ k, k < 6 → Shp (ff k) := fun k hk => okf_shp (by omega) (hof k hk)
  have heok := eR_ok htx
  have hrt := rR_le (nn tx) len
  have hS : va_S noA s.heap s.heap [] := va_S.rf
  refine lv_aload_n hx hb dL_waiting_0 rfl (lv_at hl 3 rfl) ?_
  refine lv_iconst (v := nI 0) hx hb dL_waiting_1 (by decide +kernel) ?_
  refine lv_aload_n hx hb dL_waiting_2 rfl (lv_at hl 0 rfl) ?_
  refine lv_iload_n hx hb dL_waiting_3 rfl (lv_at hl 1 rfl) ?_
  refine lv_iload_n hx hb dL_waiting_4 rfl (lv_at hl 2 rfl) ?_
  refine xcall (vx_runV (As := [.int p0, .int p1]) (rest := [.int (nI 0), .ref ou]) ⟨hx, hb, hml, hown, hts⟩ (c_X5_waiting_e2 l hlt G fe p0 p1 h1 hNo) (cwV 2 hts gL_waiting_X5_waiting rfl rfl rfl (by decide +kernel) ⟨Nat.le_of_ble_eq_true rfl, Nat.le_of_ble_eq_true rfl⟩) (PJ.preV hE hJ hRv P_nil) rfl rfl hl.1 rfl (lv_room (Nat.le_of_ble_eq_true rfl)) dL_waiting_5 ⟨Nat.le_of_ble_eq_true rfl, Nat.le_of_ble_eq_true rfl⟩) hS (fun H locs xq ce hk hS hq hv hc => ?_)
  refine vx_catch hown [(⟨0, 10, 13, 13⟩ : ExceptionTableEntry)] (⟨0, 10, 17, 15⟩ : ExceptionTableEntry) [] (htab.trans rfl) (fun z hz => by
      simp only [List.mem_cons, List.not_mem_nil, or_false] at hz
      rcases hz with rfl
      · exact Or.inr ⟨by decide, "java/lang/IndexOutOfBoundsException", hts (.classLink RL 13 "java/lang/IndexOutOfBoundsException") (by decide +kernel), hJ.2.2.2.2.1.2.1⟩) (by decide) (by decide) (hts (.classLink RL 15 "java/lang/IllegalArgumentException") (by decide +kernel)) (va_Nw.use rfl (hJ.2.2.2.1 "java/lang/IllegalArgumentException" (by decide))) hq hv hc ?_
  refine lv_astore (lv' := [(4, .ref xq), (0, .ref fe), (1, .int p0), (2, .int p1), (3, .ref ou)]) hx hb dL_waiting_17 hl (by decide) rfl (fun ls hl => ?_)
  refine lv_iconst (v := nI 2) hx hb dL_waiting_19 (by decide +kernel) ?_
  exact W.iret hx hb hr (fun t ht hW => ⟨rfl, trivial, hS.F ht⟩) hS.2.2 dL_waiting_20
set_option maxHeartbeats 4000000 in
set_option maxRecDepth 100000 in
theorem CL_deck_in (l : Launch) (G : eG) (cJ : ClassId) {ou : Nat} {lo : Nat → Int64} {fe B : Nat} {f sf : Nat → Int32} {ff : Nat → Nat → Int32} {old sz len : Nat} {tx : Nat → Int32} {hsn : Int32} {WC : va_W} (hX : XS G fe f sf ff old sz len tx hsn WC) (hR : PR B f sf ff old sz len tx hsn) (hB : B < 700000000) (b : Nat) (j : Nat) (hb2 : b < 2) (hj : j < 2147483648) (x : Nat) (hw2 : x < 2) (hjq : j < nn f (79 + 9 * b)) : Met l yL_deck wsL_deck ({ frames := 3, cells := 0, slots := 0, locals := 66 }) (PL [.ref fe, .int (nI b), .int (nI j), .int (nI x), .ref ou] G cJ (fun H => va_P G.1 vwCl ([(ou, .inl (cJ, 1, .inr (.inl lo)))] ++ WC) H ∧ va_D (fun _ => True) ([(ou, .inl (cJ, 1, .inr (.inl lo)))] ++ WC))) (MV (some (.int (nI 0))) (fun H => ∃ W', XS G fe f sf ff old sz len tx hsn W' ∧ va_P G.1 vwCl ([(ou, .inl (cJ, 1, .inr (.inl (vp_updL lo 0 (((f ((((79 + (9 * b)) + 1) + (2 * j)) + x))).toInt64)))))] ++ W') H ∧ va_D (inW ([(ou, .inl (cJ, 1, .inr (.inl lo)))] ++ WC)) ([(ou, .inl (cJ, 1, .inr (.inl (vp_updL lo 0 (((f ((((79 + (9 * b)) + 1) + (2 * j)) + x))).toInt64)))))] ++ W')) (inW ([(ou, .inl (cJ, 1, .inr (.inl lo)))] ++ WC))) 0 0 (inW ([(ou, .inl (cJ, 1, .inr (.inl lo)))] ++ WC)) := by
  refine ofBL (cc := cL_deck) (maxL := 6) (ret := some .int) (by decide) rfl (Nat.le_of_ble_eq_true rfl) ?_
  intro p e s m below meth c hx hb hr hlocks hml hown hin hts hE hJ hKJ hI htab ls hl
  replace hown : s.vm.findClass RL = some m.cls := hown
  have hl : lv_has ls 6 [(0, .ref fe), (1, .int (nI b)), (2, .int (nI j)), (3, .int (nI x)), (4, .ref ou)] := hl
  obtain ⟨hP, hD0⟩ := hI
  have hD : va_D (inW ([(ou, .inl (cJ, 1, .inr (.inl lo)))] ++ WC)) ([(ou, .inl (cJ, 1, .inr (.inl lo)))] ++ WC) := D_self hD0
  obtain ⟨A, hAe⟩ : ∃ A, A = inW ([(ou, .inl (cJ, 1, .inr (.inl lo)))] ++ WC) := ⟨_, rfl⟩
  rw [← hAe] at hD ⊢
  have hS : va_S A s.heap s.heap [] := va_S.rf
  obtain ⟨H, hHe⟩ : ∃ H, H = s.heap := ⟨_, rfl⟩
  obtain ⟨locs, hle⟩ : ∃ q : List Loc, q = [] := ⟨_, rfl⟩
  rw [← hle] at hS ⊢
  have hP : va_P G.1 vwCl (WC ++ [(ou, .inl (cJ, 1, .inr (.inl lo)))]) H := by rw [hHe]; exact P_perm List.perm_append_comm hP
  replace hD : va_D A (WC ++ [(ou, .inl (cJ, 1, .inr (.inl lo)))]) := D_perm List.perm_append_comm hD
  replace hS : va_S A s.heap H locs := by rw [hHe]; exact hS
  replace hJ : JX s H := by rw [hHe]; exact hJ
  refine tH hHe ?_
  refine lv_aload hx hb dL_deck_0 (lv_at hl 4 rfl) ?_
  refine lv_iconst (v := nI 0) hx hb dL_deck_2 (by decide +kernel) ?_
  refine lv_aload_n hx hb dL_deck_3 rfl (lv_at hl 0 rfl) ?_
  refine lv_iload_n hx hb dL_deck_4 rfl (lv_at hl 1 rfl) ?_
  refine lv_iload_n hx hb dL_deck_5 rfl (lv_at hl 2 rfl) ?_
  refine lv_iload_n hx hb dL_deck_6 rfl (lv_at hl 3 rfl) ?_
  have hPc := P_pre hP
  have hDc := D_pre hD
  refine mcall (st1 := [.int (f ((((79 + (9 * b)) + 1) + (2 * j)) + x)), .int (nI 0), .ref ou]) (va_runV (As := [.int (nI b), .int (nI j), .int (nI x)]) (rest := [.int (nI 0), .ref ou]) ⟨hx, hb, hml, hown, hts⟩ (CX_deck_in l G hX hR hB b j hb2 hj x hw2 hjq) (cwV 3 hts gL_deck_X5_deck rfl rfl rfl (by decide +kernel) ⟨Nat.le_of_ble_eq_true rfl, Nat.le_of_ble_eq_true rfl⟩) (PJ.preV hE hJ (xs_recv hE.1 hX hPc) ⟨hPc, hDc.weaken (fun _ _ _ _ => trivial)⟩) rfl rfl hl.1 rfl (lv_room (Nat.le_of_ble_eq_true rfl)) dL_deck_7 ⟨Nat.zero_le _, Nat.zero_le _⟩) hS (fun q _ h => inW_D hDc q h) (fun q h => inW_D hDc q h) rfl (fun H1 locs1 hB9 hz1 hk1 hS => ?_)
  obtain ⟨W', hX', hP1, hD1⟩ := hB9
  obtain ⟨hP, hD⟩ := jnF (w1 := W') hP hD hk1 hP1 hD1
  generalize H1 = H at hP hS ⊢
  replace hP : va_P G.1 vwCl ([(ou, .inl (cJ, 1, .inr (.inl lo)))] ++ W') H := P_perm List.perm_append_comm hP
  replace hD : va_D A ([(ou, .inl (cJ, 1, .inr (.inl lo)))] ++ W') := D_perm List.perm_append_comm hD
  refine lv_i2l (v := ((f ((((79 + (9 * b)) + 1) + (2 * j)) + x))).toInt64) hx hb dL_deck_10 rfl ?_
  refine va_last hx hb hKJ hP hD hS 0 0 rfl rfl (vp_in_nI (n := 0) (N := 1) (by decide) (by decide)) dL_deck_11 (fun H locs hP hD hS => ?_)
  rw [nI_clamp (by decide)] at hP hD
  refine lv_goto (tgt := 23) hx hb dL_deck_12 (by decide) ?_
  refine lv_iconst (v := nI 0) hx hb dL_deck_23 (by decide +kernel) ?_
  exact W.iret hx hb hr (fun t ht hW => ⟨rfl, by rw [ht]; exact ⟨W', hX', hP, hD⟩, hS.F ht⟩) hS.2.2 dL_deck_24
set_option maxHeartbeats 4000000 in
set_option maxRecDepth 100000 in
theorem CL_deck_out (l : Launch) (G : eG) (cJ : ClassId) {ou : Nat} {lo : Nat → Int64} {fe B : Nat} {f sf : Nat → Int32} {ff : Nat → Nat → Int32} {old sz len : Nat} {tx : Nat → Int32} {hsn : Int32} {WC : va_W} (hX : XS G fe f sf ff old sz len tx hsn WC) (hR : PR B f sf ff old sz len tx hsn) (hB : B < 700000000) (b : Nat) (j : Nat) (hb2 : b < 2) (hj : j < 2147483648) (x : Nat) (hw2 : x < 2) (hjq : nn f (79 + 9 * b) ≤ j) : Met l yL_deck wsL_deck ({ frames := 2, cells := 0, slots := 0, locals := 46 }) (PL [.ref fe, .int (nI b), .int (nI j), .int (nI x), .ref ou] G cJ (fun H => va_P G.1 vwCl ([(ou, .inl (cJ, 1, .inr (.inl lo)))] ++ WC) H ∧ va_D (fun _ => True) ([(ou, .inl (cJ, 1, .inr (.inl lo)))] ++ WC))) (MV (some (.int (nI 0))) (fun H => ∃ W', XS G fe f sf ff old sz len tx hsn W' ∧ va_P G.1 vwCl ([(ou, .inl (cJ, 1, .inr (.inl (vp_updL lo 0 ((((-1))).toInt64)))))] ++ W') H ∧ va_D (inW ([(ou, .inl (cJ, 1, .inr (.inl lo)))] ++ WC)) ([(ou, .inl (cJ, 1, .inr (.inl (vp_updL lo 0 ((((-1))).toInt64)))))] ++ W')) (inW ([(ou, .inl (cJ, 1, .inr (.inl lo)))] ++ WC))) 0 0 (inW ([(ou, .inl (cJ, 1, .inr (.inl lo)))] ++ WC)) := by
  refine ofBL (cc := cL_deck) (maxL := 6) (ret := some .int) (by decide) rfl (Nat.le_of_ble_eq_true rfl) ?_
  intro p e s m below meth c hx hb hr hlocks hml hown hin hts hE hJ hKJ hI htab ls hl
  replace hown : s.vm.findClass RL = some m.cls := hown
  have hl : lv_has ls 6 [(0, .ref fe), (1, .int (nI b)), (2, .int (nI j)), (3, .int (nI x)), (4, .ref ou)] := hl
  obtain ⟨hP, hD0⟩ := hI
  have hD : va_D (inW ([(ou, .inl (cJ, 1, .inr (.inl lo)))] ++ WC)) ([(ou, .inl (cJ, 1, .inr (.inl lo)))] ++ WC) := D_self hD0
  obtain ⟨A, hAe⟩ : ∃ A, A = inW ([(ou, .inl (cJ, 1, .inr (.inl lo)))] ++ WC) := ⟨_, rfl⟩
  rw [← hAe] at hD ⊢
  have hS : va_S A s.heap s.heap [] := va_S.rf
  obtain ⟨H, hHe⟩ : ∃ H, H = s.heap := ⟨_, rfl⟩
  obtain ⟨locs, hle⟩ : ∃ q : List Loc, q = [] := ⟨_, rfl⟩
  rw [← hle] at hS ⊢
  have hP : va_P G.1 vwCl (WC ++ [(ou, .inl (cJ, 1, .inr (.inl lo)))]) H := by rw [hHe]; exact P_perm List.perm_append_comm hP
  replace hD : va_D A (WC ++ [(ou, .inl (cJ, 1, .inr (.inl lo)))]) := D_perm List.perm_append_comm hD
  replace hS : va_S A s.heap H locs := by rw [hHe]; exact hS
  replace hJ : JX s H := by rw [hHe]; exact hJ
  refine tH hHe ?_
  refine lv_aload hx hb dL_deck_0 (lv_at hl 4 rfl) ?_
  refine lv_iconst (v := nI 0) hx hb dL_deck_2 (by decide +kernel) ?_
  refine lv_aload_n hx hb dL_deck_3 rfl (lv_at hl 0 rfl) ?_
  refine lv_iload_n hx hb dL_deck_4 rfl (lv_at hl 1 rfl) ?_
  refine lv_iload_n hx hb dL_deck_5 rfl (lv_at hl 2 rfl) ?_
  refine lv_iload_n hx hb dL_deck_6 rfl (lv_at hl 3 rfl) ?_
  have hPc := P_pre hP
  have hDc := D_pre hD
  refine mcall (st1 := [.int ((-1)), .int (nI 0), .ref ou]) (va_runV (As := [.int (nI b), .int (nI j), .int (nI x)]) (rest := [.int (nI 0), .ref ou]) ⟨hx, hb, hml, hown, hts⟩ (CX_deck_out l G hX hR hB b j hb2 hj x hw2 hjq) (cwV 3 hts gL_deck_X5_deck rfl rfl rfl (by decide +kernel) ⟨Nat.le_of_ble_eq_true rfl, Nat.le_of_ble_eq_true rfl⟩) (PJ.preV hE hJ (xs_recv hE.1 hX hPc) ⟨hPc, hDc.weaken (fun _ _ _ _ => trivial)⟩) rfl rfl hl.1 rfl (lv_room (Nat.le_of_ble_eq_true rfl)) dL_deck_7 ⟨Nat.zero_le _, Nat.zero_le _⟩) hS (fun q _ h => inW_D hDc q h) (fun q h => inW_D hDc q h) rfl (fun H1 locs1 hB9 hz1 hk1 hS => ?_)
  obtain ⟨W', hX', hP1, hD1⟩ := hB9
  obtain ⟨hP, hD⟩ := jnF (w1 := W') hP hD hk1 hP1 hD1
  generalize H1 = H at hP hS ⊢
  replace hP : va_P G.1 vwCl ([(ou, .inl (cJ, 1, .inr (.inl lo)))] ++ W') H := P_perm List.perm_append_comm hP
  replace hD : va_D A ([(ou, .inl (cJ, 1, .inr (.inl lo)))] ++ W') := D_perm List.perm_append_comm hD
  refine lv_i2l (v := (((-1))).toInt64) hx hb dL_deck_10 rfl ?_
  refine va_last hx hb hKJ hP hD hS 0 0 rfl rfl (vp_in_nI (n := 0) (N := 1) (by decide) (by decide)) dL_deck_11 (fun H locs hP hD hS => ?_)
  rw [nI_clamp (by decide)] at hP hD
  refine lv_goto (tgt := 23) hx hb dL_deck_12 (by decide) ?_
  refine lv_iconst (v := nI 0) hx hb dL_deck_23 (by decide +kernel) ?_
  exact W.iret hx hb hr (fun t ht hW => ⟨rfl, by rw [ht]; exact ⟨W', hX', hP, hD⟩, hS.F ht⟩) hS.2.2 dL_deck_24
set_option maxHeartbeats 4000000 in
set_option maxRecDepth 100000 in
theorem CL_deck_e1 (l : Launch) (hlt : l.stackTraces = false) (G : eG) (cJ : ClassId) {ou : Nat} {fe B : Nat} {f sf : Nat → Int32} {ff : Nat → Nat → Int32} {old sz len : Nat} {tx : Nat → Int32} {hsn : Int32} {WC : va_W} (hX : XS G fe f sf ff old sz len tx hsn WC) (hR : PR B f sf ff old sz len tx hsn) (hB : B < 700000000) (p0 : Int32) (p1 : Int32) (p2 : Int32) (hNo : ¬ (nI 0 ≤ p0 ∧ p0 ≤ nI 1)) : Met l yL_deck wsL_deck ({ frames := 7, cells := 1, slots := 6, locals := 106 }) (PL [.ref fe, .int p0, .int p1, .int p2, .ref ou] G cJ (fun H => va_P G.1 vwCl WC H ∧ va_D (fun _ => True) WC)) (MV (some (.int (nI 1))) (fun _ => True) noA) 1 6 noA := by
  refine ofBL (cc := cL_deck) (maxL := 6) (ret := some .int) (by decide) rfl (Nat.le_of_ble_eq_true rfl) ?_
  intro p e s m below meth c hx hb hr hlocks hml hown hin hts hE hJ hKJ hI htab ls hl
  replace hown : s.vm.findClass RL = some m.cls := hown
  have hl : lv_has ls 6 [(0, .ref fe), (1, .int p0), (2, .int p1), (3, .int p2), (4, .ref ou)] := hl
  obtain ⟨hP, hD0⟩ := hI
  have hRv := xs_recv hE.1 hX hP
  obtain ⟨an, tn, sn, v0, v1, w, tf, tv0, tv1, tw, sv0, sv1, sw, ha, sv, ad, aa, vv0, vv1, ww, oa, co, rfl, hcp, hst, hcs, hcf, had⟩ := hX
  obtain ⟨ho, hos, hof, hold, hz, htx, hk01⟩ := hR
  have hs := okf_shp (by omega) ho
  have hsS := okf_shp (by omega) hos
  have hrg : ∀ k, k < 6 → Shp (ff k) := fun k hk => okf_shp (by omega) (hof k hk)
  have heok := eR_ok htx
  have hrt := rR_le (nn tx) len
  have hS : va_S noA s.heap s.heap [] := va_S.rf
  refine lv_aload hx hb dL_deck_0 (lv_at hl 4 rfl) ?_
  refine lv_iconst (v := nI 0) hx hb dL_deck_2 (by decide +kernel) ?_
  refine lv_aload_n hx hb dL_deck_3 rfl (lv_at hl 0 rfl) ?_
  refine lv_iload_n hx hb dL_deck_4 rfl (lv_at hl 1 rfl) ?_
  refine lv_iload_n hx hb dL_deck_5 rfl (lv_at hl 2 rfl) ?_
  refine lv_iload_n hx hb dL_deck_6 rfl (lv_at hl 3 rfl) ?_
  refine xcall (vx_runV (As := [.int p0, .int p1, .int p2]) (rest := [.int (nI 0), .ref ou]) ⟨hx, hb, hml, hown, hts⟩ (c_X5_deck_e1 l hlt G fe p0 p1 p2 hNo) (cwV 3 hts gL_deck_X5_deck rfl rfl rfl (by decide +kernel) ⟨Nat.le_of_ble_eq_true rfl, Nat.le_of_ble_eq_true rfl⟩) (PJ.preV hE hJ hRv P_nil) rfl rfl hl.1 rfl (lv_room (Nat.le_of_ble_eq_true rfl)) dL_deck_7 ⟨Nat.le_of_ble_eq_true rfl, Nat.le_of_ble_eq_true rfl⟩) hS (fun H locs xq ce hk hS hq hv hc => ?_)
  refine vx_catch hown [] (⟨0, 12, 15, 13⟩ : ExceptionTableEntry) [(⟨0, 12, 19, 15⟩ : ExceptionTableEntry)] (htab.trans rfl) (fun z hz => by cases hz) (by decide) (by decide) (hts (.classLink RL 13 "java/lang/IndexOutOfBoundsException") (by decide +kernel)) (va_Nw.use rfl (hJ.2.2.2.1 "java/lang/IndexOutOfBoundsException" (by decide))) hq hv hc ?_
  refine lv_astore (lv' := [(5, .ref xq), (0, .ref fe), (1, .int p0), (2, .int p1), (3, .int p2), (4, .ref ou)]) hx hb dL_deck_15 hl (by decide) rfl (fun ls hl => ?_)
  refine lv_iconst (v := nI 1) hx hb dL_deck_17 (by decide +kernel) ?_
  exact W.iret hx hb hr (fun t ht hW => ⟨rfl, trivial, hS.F ht⟩) hS.2.2 dL_deck_18
set_option maxHeartbeats 4000000 in
set_option maxRecDepth 100000 in
theorem CL_deck_e2a (l : Launch) (hlt : l.stackTraces = false) (G : eG) (cJ : ClassId) {ou : Nat} {fe B : Nat} {f sf : Nat → Int32} {ff : Nat → Nat → Int32} {old sz len : Nat} {tx : Nat → Int32} {hsn : Int32} {WC : va_W} (hX : XS G fe f sf ff old sz len tx hsn WC) (hR : PR B f sf ff old sz len tx hsn) (hB : B < 700000000) (p0 : Int32) (p1 : Int32) (p2 : Int32) (h1 : nI 0 ≤ p0 ∧ p0 ≤ nI 1) (hNo : p1 < 0) : Met l yL_deck wsL_deck ({ frames := 7, cells := 1, slots := 6, locals := 106 }) (PL [.ref fe, .int p0, .int p1, .int p2, .ref ou] G cJ (fun H => va_P G.1 vwCl WC H ∧ va_D (fun _ => True) WC)) (MV (some (.int (nI 2))) (fun _ => True) noA) 1 6 noA := by
  refine ofBL (cc := cL_deck) (maxL := 6) (ret := some .int) (by decide) rfl (Nat.le_of_ble_eq_true rfl) ?_
  intro p e s m below meth c hx hb hr hlocks hml hown hin hts hE hJ hKJ hI htab ls hl
  replace hown : s.vm.findClass RL = some m.cls := hown
  have hl : lv_has ls 6 [(0, .ref fe), (1, .int p0), (2, .int p1), (3, .int p2), (4, .ref ou)] := hl
  obtain ⟨hP, hD0⟩ := hI
  have hRv := xs_recv hE.1 hX hP
  obtain ⟨an, tn, sn, v0, v1, w, tf, tv0, tv1, tw, sv0, sv1, sw, ha, sv, ad, aa, vv0, vv1, ww, oa, co, rfl, hcp, hst, hcs, hcf, had⟩ := hX
  obtain ⟨ho, hos, hof, hold, hz, htx, hk01⟩ := hR
  have hs := okf_shp (by omega) ho
  have hsS := okf_shp (by omega) hos
  have hrg : ∀ k, k < 6 → Shp (ff k) := fun k hk => okf_shp (by omega) (hof k hk)
  have heok := eR_ok htx
  have hrt := rR_le (nn tx) len
  have hS : va_S noA s.heap s.heap [] := va_S.rf
  refine lv_aload hx hb dL_deck_0 (lv_at hl 4 rfl) ?_
  refine lv_iconst (v := nI 0) hx hb dL_deck_2 (by decide +kernel) ?_
  refine lv_aload_n hx hb dL_deck_3 rfl (lv_at hl 0 rfl) ?_
  refine lv_iload_n hx hb dL_deck_4 rfl (lv_at hl 1 rfl) ?_
  refine lv_iload_n hx hb dL_deck_5 rfl (lv_at hl 2 rfl) ?_
  refine lv_iload_n hx hb dL_deck_6 rfl (lv_at hl 3 rfl) ?_
  refine xcall (vx_runV (As := [.int p0, .int p1, .int p2]) (rest := [.int (nI 0), .ref ou]) ⟨hx, hb, hml, hown, hts⟩ (c_X5_deck_e2a l hlt G fe p0 p1 p2 h1 hNo) (cwV 3 hts gL_deck_X5_deck rfl rfl rfl (by decide +kernel) ⟨Nat.le_of_ble_eq_true rfl, Nat.le_of_ble_eq_true rfl⟩) (PJ.preV hE hJ hRv P_nil) rfl rfl hl.1 rfl (lv_room (Nat.le_of_ble_eq_true rfl)) dL_deck_7 ⟨Nat.le_of_ble_eq_true rfl, Nat.le_of_ble_eq_true rfl⟩) hS (fun H locs xq ce hk hS hq hv hc => ?_)
  refine vx_catch hown [(⟨0, 12, 15, 13⟩ : ExceptionTableEntry)] (⟨0, 12, 19, 15⟩ : ExceptionTableEntry) [] (htab.trans rfl) (fun z hz => by
      simp only [List.mem_cons, List.not_mem_nil, or_false] at hz
      rcases hz with rfl
      · exact Or.inr ⟨by decide, "java/lang/IndexOutOfBoundsException", hts (.classLink RL 13 "java/lang/IndexOutOfBoundsException") (by decide +kernel), hJ.2.2.2.2.1.2.1⟩) (by decide) (by decide) (hts (.classLink RL 15 "java/lang/IllegalArgumentException") (by decide +kernel)) (va_Nw.use rfl (hJ.2.2.2.1 "java/lang/IllegalArgumentException" (by decide))) hq hv hc ?_
  refine lv_astore (lv' := [(5, .ref xq), (0, .ref fe), (1, .int p0), (2, .int p1), (3, .int p2), (4, .ref ou)]) hx hb dL_deck_19 hl (by decide) rfl (fun ls hl => ?_)
  refine lv_iconst (v := nI 2) hx hb dL_deck_21 (by decide +kernel) ?_
  exact W.iret hx hb hr (fun t ht hW => ⟨rfl, trivial, hS.F ht⟩) hS.2.2 dL_deck_22
set_option maxHeartbeats 4000000 in
set_option maxRecDepth 100000 in
theorem CL_deck_e2b (l : Launch) (hlt : l.stackTraces = false) (G : eG) (cJ : ClassId) {ou : Nat} {fe B : Nat} {f sf : Nat → Int32} {ff : Nat → Nat → Int32} {old sz len : Nat} {tx : Nat → Int32} {hsn : Int32} {WC : va_W} (hX : XS G fe f sf ff old sz len tx hsn WC) (hR : PR B f sf ff old sz len tx hsn) (hB : B < 700000000) (p0 : Int32) (p1 : Int32) (p2 : Int32) (h1 : nI 0 ≤ p0 ∧ p0 ≤ nI 1) (hE0 : ¬ p1 < 0) (hNo : ¬ (nI 0 ≤ p2 ∧ p2 ≤ nI 1)) : Met l yL_deck wsL_deck ({ frames := 7, cells := 1, slots := 6, locals := 106 }) (PL [.ref fe, .int p0, .int p1, .int p2, .ref ou] G cJ (fun H => va_P G.1 vwCl WC H ∧ va_D (fun _ => True) WC)) (MV (some (.int (nI 2))) (fun _ => True) noA) 1 6 noA := by
  refine ofBL (cc := cL_deck) (maxL := 6) (ret := some .int) (by decide) rfl (Nat.le_of_ble_eq_true rfl) ?_
  intro p e s m below meth c hx hb hr hlocks hml hown hin hts hE hJ hKJ hI htab ls hl
  replace hown : s.vm.findClass RL = some m.cls := hown
  have hl : lv_has ls 6 [(0, .ref fe), (1, .int p0), (2, .int p1), (3, .int p2), (4, .ref ou)] := hl
  obtain ⟨hP, hD0⟩ := hI
  have hRv := xs_recv hE.1 hX hP
  obtain ⟨an, tn, sn, v0, v1, w, tf, tv0, tv1, tw, sv0, sv1, sw, ha, sv, ad, aa, vv0, vv1, ww, oa, co, rfl, hcp, hst, hcs, hcf, had⟩ := hX
  obtain ⟨ho, hos, hof, hold, hz, htx, hk01⟩ := hR
  have hs := okf_shp (by omega) ho
  have hsS := okf_shp (by omega) hos
  have hrg : ∀ k, k < 6 → Shp (ff k) := fun k hk => okf_shp (by omega) (hof k hk)
  have heok := eR_ok htx
  have hrt := rR_le (nn tx) len
  have hS : va_S noA s.heap s.heap [] := va_S.rf
  refine lv_aload hx hb dL_deck_0 (lv_at hl 4 rfl) ?_
  refine lv_iconst (v := nI 0) hx hb dL_deck_2 (by decide +kernel) ?_
  refine lv_aload_n hx hb dL_deck_3 rfl (lv_at hl 0 rfl) ?_
  refine lv_iload_n hx hb dL_deck_4 rfl (lv_at hl 1 rfl) ?_
  refine lv_iload_n hx hb dL_deck_5 rfl (lv_at hl 2 rfl) ?_
  refine lv_iload_n hx hb dL_deck_6 rfl (lv_at hl 3 rfl) ?_
  refine xcall (vx_runV (As := [.int p0, .int p1, .int p2]) (rest := [.int (nI 0), .ref ou]) ⟨hx, hb, hml, hown, hts⟩ (c_X5_deck_e2b l hlt G fe p0 p1 p2 h1 hE0 hNo) (cwV 3 hts gL_deck_X5_deck rfl rfl rfl (by decide +kernel) ⟨Nat.le_of_ble_eq_true rfl, Nat.le_of_ble_eq_true rfl⟩) (PJ.preV hE hJ hRv P_nil) rfl rfl hl.1 rfl (lv_room (Nat.le_of_ble_eq_true rfl)) dL_deck_7 ⟨Nat.le_of_ble_eq_true rfl, Nat.le_of_ble_eq_true rfl⟩) hS (fun H locs xq ce hk hS hq hv hc => ?_)
  refine vx_catch hown [(⟨0, 12, 15, 13⟩ : ExceptionTableEntry)] (⟨0, 12, 19, 15⟩ : ExceptionTableEntry) [] (htab.trans rfl) (fun z hz => by
      simp only [List.mem_cons, List.not_mem_nil, or_false] at hz
      rcases hz with rfl
      · exact Or.inr ⟨by decide, "java/lang/IndexOutOfBoundsException", hts (.classLink RL 13 "java/lang/IndexOutOfBoundsException") (by decide +kernel), hJ.2.2.2.2.1.2.1⟩) (by decide) (by decide) (hts (.classLink RL 15 "java/lang/IllegalArgumentException") (by decide +kernel)) (va_Nw.use rfl (hJ.2.2.2.1 "java/lang/IllegalArgumentException" (by decide))) hq hv hc ?_
  refine lv_astore (lv' := [(5, .ref xq), (0, .ref fe), (1, .int p0), (2, .int p1), (3, .int p2), (4, .ref ou)]) hx hb dL_deck_19 hl (by decide) rfl (fun ls hl => ?_)
  refine lv_iconst (v := nI 2) hx hb dL_deck_21 (by decide +kernel) ?_
  exact W.iret hx hb hr (fun t ht hW => ⟨rfl, trivial, hS.F ht⟩) hS.2.2 dL_deck_22
set_option maxHeartbeats 4000000 in
set_option maxRecDepth 100000 in
theorem CL_count_ok (l : Launch) (G : eG) (cJ : ClassId) {ou : Nat} {lo : Nat → Int64} {fe B : Nat} {f sf : Nat → Int32} {ff : Nat → Nat → Int32} {old sz len : Nat} {tx : Nat → Int32} {hsn : Int32} {WC : va_W} (hX : XS G fe f sf ff old sz len tx hsn WC) (hR : PR B f sf ff old sz len tx hsn) (hB : B < 700000000) (x : Nat) (hw : x < 14) : Met l yL_count wsL_count ({ frames := 3, cells := 0, slots := 0, locals := 62 }) (PL [.ref fe, .int (nI x), .ref ou] G cJ (fun H => va_P G.1 vwCl ([(ou, .inl (cJ, 1, .inr (.inl lo)))] ++ WC) H ∧ va_D (fun _ => True) ([(ou, .inl (cJ, 1, .inr (.inl lo)))] ++ WC))) (MV (some (.int (nI 0))) (fun H => ∃ W', XS G fe f sf ff old sz len tx hsn W' ∧ va_P G.1 vwCl ([(ou, .inl (cJ, 1, .inr (.inl (vp_updL lo 0 (((fCnt f sz x)).toInt64)))))] ++ W') H ∧ va_D (inW ([(ou, .inl (cJ, 1, .inr (.inl lo)))] ++ WC)) ([(ou, .inl (cJ, 1, .inr (.inl (vp_updL lo 0 (((fCnt f sz x)).toInt64)))))] ++ W')) (inW ([(ou, .inl (cJ, 1, .inr (.inl lo)))] ++ WC))) 0 0 (inW ([(ou, .inl (cJ, 1, .inr (.inl lo)))] ++ WC)) := by
  refine ofBL (cc := cL_count) (maxL := 4) (ret := some .int) (by decide) rfl (Nat.le_of_ble_eq_true rfl) ?_
  intro p e s m below meth c hx hb hr hlocks hml hown hin hts hE hJ hKJ hI htab ls hl
  replace hown : s.vm.findClass RL = some m.cls := hown
  have hl : lv_has ls 4 [(0, .ref fe), (1, .int (nI x)), (2, .ref ou)] := hl
  obtain ⟨hP, hD0⟩ := hI
  have hD : va_D (inW ([(ou, .inl (cJ, 1, .inr (.inl lo)))] ++ WC)) ([(ou, .inl (cJ, 1, .inr (.inl lo)))] ++ WC) := D_self hD0
  obtain ⟨A, hAe⟩ : ∃ A, A = inW ([(ou, .inl (cJ, 1, .inr (.inl lo)))] ++ WC) := ⟨_, rfl⟩
  rw [← hAe] at hD ⊢
  have hS : va_S A s.heap s.heap [] := va_S.rf
  obtain ⟨H, hHe⟩ : ∃ H, H = s.heap := ⟨_, rfl⟩
  obtain ⟨locs, hle⟩ : ∃ q : List Loc, q = [] := ⟨_, rfl⟩
  rw [← hle] at hS ⊢
  have hP : va_P G.1 vwCl (WC ++ [(ou, .inl (cJ, 1, .inr (.inl lo)))]) H := by rw [hHe]; exact P_perm List.perm_append_comm hP
  replace hD : va_D A (WC ++ [(ou, .inl (cJ, 1, .inr (.inl lo)))]) := D_perm List.perm_append_comm hD
  replace hS : va_S A s.heap H locs := by rw [hHe]; exact hS
  replace hJ : JX s H := by rw [hHe]; exact hJ
  refine tH hHe ?_
  refine lv_aload_n hx hb dL_count_0 rfl (lv_at hl 2 rfl) ?_
  refine lv_iconst (v := nI 0) hx hb dL_count_1 (by decide +kernel) ?_
  refine lv_aload_n hx hb dL_count_2 rfl (lv_at hl 0 rfl) ?_
  refine lv_iload_n hx hb dL_count_3 rfl (lv_at hl 1 rfl) ?_
  have hPc := P_pre hP
  have hDc := D_pre hD
  refine mcall (st1 := [.int (fCnt f sz x), .int (nI 0), .ref ou]) (va_runV (As := [.int (nI x)]) (rest := [.int (nI 0), .ref ou]) ⟨hx, hb, hml, hown, hts⟩ (CX_count_ok l G hX hR hB x hw) (cwV 1 hts gL_count_X5_count rfl rfl rfl (by decide +kernel) ⟨Nat.le_of_ble_eq_true rfl, Nat.le_of_ble_eq_true rfl⟩) (PJ.preV hE hJ (xs_recv hE.1 hX hPc) ⟨hPc, hDc.weaken (fun _ _ _ _ => trivial)⟩) rfl rfl hl.1 rfl (lv_room (Nat.le_of_ble_eq_true rfl)) dL_count_4 ⟨Nat.zero_le _, Nat.zero_le _⟩) hS (fun q _ h => inW_D hDc q h) (fun q h => inW_D hDc q h) rfl (fun H1 locs1 hB9 hz1 hk1 hS => ?_)
  obtain ⟨W', hX', hP1, hD1⟩ := hB9
  obtain ⟨hP, hD⟩ := jnF (w1 := W') hP hD hk1 hP1 hD1
  generalize H1 = H at hP hS ⊢
  replace hP : va_P G.1 vwCl ([(ou, .inl (cJ, 1, .inr (.inl lo)))] ++ W') H := P_perm List.perm_append_comm hP
  replace hD : va_D A ([(ou, .inl (cJ, 1, .inr (.inl lo)))] ++ W') := D_perm List.perm_append_comm hD
  refine lv_i2l (v := ((fCnt f sz x)).toInt64) hx hb dL_count_7 rfl ?_
  refine va_last hx hb hKJ hP hD hS 0 0 rfl rfl (vp_in_nI (n := 0) (N := 1) (by decide) (by decide)) dL_count_8 (fun H locs hP hD hS => ?_)
  rw [nI_clamp (by decide)] at hP hD
  refine lv_goto (tgt := 15) hx hb dL_count_9 (by decide) ?_
  refine lv_iconst (v := nI 0) hx hb dL_count_15 (by decide +kernel) ?_
  exact W.iret hx hb hr (fun t ht hW => ⟨rfl, by rw [ht]; exact ⟨W', hX', hP, hD⟩, hS.F ht⟩) hS.2.2 dL_count_16
set_option maxHeartbeats 4000000 in
set_option maxRecDepth 100000 in
theorem CL_count_e1 (l : Launch) (hlt : l.stackTraces = false) (G : eG) (cJ : ClassId) {ou : Nat} {fe B : Nat} {f sf : Nat → Int32} {ff : Nat → Nat → Int32} {old sz len : Nat} {tx : Nat → Int32} {hsn : Int32} {WC : va_W} (hX : XS G fe f sf ff old sz len tx hsn WC) (hR : PR B f sf ff old sz len tx hsn) (hB : B < 700000000) (p0 : Int32) (hNo : ¬ (nI 0 ≤ p0 ∧ p0 ≤ nI 13)) : Met l yL_count wsL_count ({ frames := 7, cells := 1, slots := 6, locals := 103 }) (PL [.ref fe, .int p0, .ref ou] G cJ (fun H => va_P G.1 vwCl WC H ∧ va_D (fun _ => True) WC)) (MV (some (.int (nI 1))) (fun _ => True) noA) 1 6 noA := by
  refine ofBL (cc := cL_count) (maxL := 4) (ret := some .int) (by decide) rfl (Nat.le_of_ble_eq_true rfl) ?_
  intro p e s m below meth c hx hb hr hlocks hml hown hin hts hE hJ hKJ hI htab ls hl
  replace hown : s.vm.findClass RL = some m.cls := hown
  have hl : lv_has ls 4 [(0, .ref fe), (1, .int p0), (2, .ref ou)] := hl
  obtain ⟨hP, hD0⟩ := hI
  have hRv := xs_recv hE.1 hX hP
  obtain ⟨an, tn, sn, v0, v1, w, tf, tv0, tv1, tw, sv0, sv1, sw, ha, sv, ad, aa, vv0, vv1, ww, oa, co, rfl, hcp, hst, hcs, hcf, had⟩ := hX
  obtain ⟨ho, hos, hof, hold, hz, htx, hk01⟩ := hR
  have hs := okf_shp (by omega) ho
  have hsS := okf_shp (by omega) hos
  have hrg : ∀ k, k < 6 → Shp (ff k) := fun k hk => okf_shp (by omega) (hof k hk)
  have heok := eR_ok htx
  have hrt := rR_le (nn tx) len
  have hS : va_S noA s.heap s.heap [] := va_S.rf
  refine lv_aload_n hx hb dL_count_0 rfl (lv_at hl 2 rfl) ?_
  refine lv_iconst (v := nI 0) hx hb dL_count_1 (by decide +kernel) ?_
  refine lv_aload_n hx hb dL_count_2 rfl (lv_at hl 0 rfl) ?_
  refine lv_iload_n hx hb dL_count_3 rfl (lv_at hl 1 rfl) ?_
  refine xcall (vx_runV (As := [.int p0]) (rest := [.int (nI 0), .ref ou]) ⟨hx, hb, hml, hown, hts⟩ (c_X5_count_e1 l hlt G fe p0 hNo) (cwV 1 hts gL_count_X5_count rfl rfl rfl (by decide +kernel) ⟨Nat.le_of_ble_eq_true rfl, Nat.le_of_ble_eq_true rfl⟩) (PJ.preV hE hJ hRv P_nil) rfl rfl hl.1 rfl (lv_room (Nat.le_of_ble_eq_true rfl)) dL_count_4 ⟨Nat.le_of_ble_eq_true rfl, Nat.le_of_ble_eq_true rfl⟩) hS (fun H locs xq ce hk hS hq hv hc => ?_)
  refine vx_catch hown [] (⟨0, 9, 12, 15⟩ : ExceptionTableEntry) [] (htab.trans rfl) (fun z hz => by cases hz) (by decide) (by decide) (hts (.classLink RL 15 "java/lang/IllegalArgumentException") (by decide +kernel)) (va_Nw.use rfl (hJ.2.2.2.1 "java/lang/IllegalArgumentException" (by decide))) hq hv hc ?_
  refine lv_astore_n (lv' := [(3, .ref xq), (0, .ref fe), (1, .int p0), (2, .ref ou)]) hx hb dL_count_12 rfl hl (by decide) rfl (fun ls hl => ?_)
  refine lv_iconst (v := nI 1) hx hb dL_count_13 (by decide +kernel) ?_
  exact W.iret hx hb hr (fun t ht hW => ⟨rfl, trivial, hS.F ht⟩) hS.2.2 dL_count_14
set_option maxHeartbeats 4000000 in
set_option maxRecDepth 100000 in
theorem CL_currentOf_ok (l : Launch) (G : eG) (cJ : ClassId) {ou : Nat} {lo : Nat → Int64} {fe B : Nat} {f sf : Nat → Int32} {ff : Nat → Nat → Int32} {old sz len : Nat} {tx : Nat → Int32} {hsn : Int32} {WC : va_W} (hX : XS G fe f sf ff old sz len tx hsn WC) (hR : PR B f sf ff old sz len tx hsn) (hB : B < 700000000) (h : Nat) (hh : h < 24) : Met l yL_currentOf wsL_currentOf ({ frames := 2, cells := 0, slots := 0, locals := 43 }) (PL [.ref fe, .int (nI h), .ref ou] G cJ (fun H => va_P G.1 vwCl ([(ou, .inl (cJ, 1, .inr (.inl lo)))] ++ WC) H ∧ va_D (fun _ => True) ([(ou, .inl (cJ, 1, .inr (.inl lo)))] ++ WC))) (MV (some (.int (nI 0))) (fun H => ∃ W', XS G fe f sf ff old sz len tx hsn W' ∧ va_P G.1 vwCl ([(ou, .inl (cJ, 1, .inr (.inl (vp_updL lo 0 (((f (3 + h))).toInt64)))))] ++ W') H ∧ va_D (inW ([(ou, .inl (cJ, 1, .inr (.inl lo)))] ++ WC)) ([(ou, .inl (cJ, 1, .inr (.inl (vp_updL lo 0 (((f (3 + h))).toInt64)))))] ++ W')) (inW ([(ou, .inl (cJ, 1, .inr (.inl lo)))] ++ WC))) 0 0 (inW ([(ou, .inl (cJ, 1, .inr (.inl lo)))] ++ WC)) := by
  refine ofBL (cc := cL_currentOf) (maxL := 4) (ret := some .int) (by decide) rfl (Nat.le_of_ble_eq_true rfl) ?_
  intro p e s m below meth c hx hb hr hlocks hml hown hin hts hE hJ hKJ hI htab ls hl
  replace hown : s.vm.findClass RL = some m.cls := hown
  have hl : lv_has ls 4 [(0, .ref fe), (1, .int (nI h)), (2, .ref ou)] := hl
  obtain ⟨hP, hD0⟩ := hI
  have hD : va_D (inW ([(ou, .inl (cJ, 1, .inr (.inl lo)))] ++ WC)) ([(ou, .inl (cJ, 1, .inr (.inl lo)))] ++ WC) := D_self hD0
  obtain ⟨A, hAe⟩ : ∃ A, A = inW ([(ou, .inl (cJ, 1, .inr (.inl lo)))] ++ WC) := ⟨_, rfl⟩
  rw [← hAe] at hD ⊢
  have hS : va_S A s.heap s.heap [] := va_S.rf
  obtain ⟨H, hHe⟩ : ∃ H, H = s.heap := ⟨_, rfl⟩
  obtain ⟨locs, hle⟩ : ∃ q : List Loc, q = [] := ⟨_, rfl⟩
  rw [← hle] at hS ⊢
  have hP : va_P G.1 vwCl (WC ++ [(ou, .inl (cJ, 1, .inr (.inl lo)))]) H := by rw [hHe]; exact P_perm List.perm_append_comm hP
  replace hD : va_D A (WC ++ [(ou, .inl (cJ, 1, .inr (.inl lo)))]) := D_perm List.perm_append_comm hD
  replace hS : va_S A s.heap H locs := by rw [hHe]; exact hS
  replace hJ : JX s H := by rw [hHe]; exact hJ
  refine tH hHe ?_
  refine lv_aload_n hx hb dL_currentOf_0 rfl (lv_at hl 2 rfl) ?_
  refine lv_iconst (v := nI 0) hx hb dL_currentOf_1 (by decide +kernel) ?_
  refine lv_aload_n hx hb dL_currentOf_2 rfl (lv_at hl 0 rfl) ?_
  refine lv_iload_n hx hb dL_currentOf_3 rfl (lv_at hl 1 rfl) ?_
  have hPc := P_pre hP
  have hDc := D_pre hD
  refine mcall (st1 := [.int (f (3 + h)), .int (nI 0), .ref ou]) (va_runV (As := [.int (nI h)]) (rest := [.int (nI 0), .ref ou]) ⟨hx, hb, hml, hown, hts⟩ (CX_currentOf_ok l G hX hR hB h hh) (cwV 1 hts gL_currentOf_X5_currentOf rfl rfl rfl (by decide +kernel) ⟨Nat.le_of_ble_eq_true rfl, Nat.le_of_ble_eq_true rfl⟩) (PJ.preV hE hJ (xs_recv hE.1 hX hPc) ⟨hPc, hDc.weaken (fun _ _ _ _ => trivial)⟩) rfl rfl hl.1 rfl (lv_room (Nat.le_of_ble_eq_true rfl)) dL_currentOf_4 ⟨Nat.zero_le _, Nat.zero_le _⟩) hS (fun q _ h => inW_D hDc q h) (fun q h => inW_D hDc q h) rfl (fun H1 locs1 hB9 hz1 hk1 hS => ?_)
  obtain ⟨W', hX', hP1, hD1⟩ := hB9
  obtain ⟨hP, hD⟩ := jnF (w1 := W') hP hD hk1 hP1 hD1
  generalize H1 = H at hP hS ⊢
  replace hP : va_P G.1 vwCl ([(ou, .inl (cJ, 1, .inr (.inl lo)))] ++ W') H := P_perm List.perm_append_comm hP
  replace hD : va_D A ([(ou, .inl (cJ, 1, .inr (.inl lo)))] ++ W') := D_perm List.perm_append_comm hD
  refine lv_i2l (v := ((f (3 + h))).toInt64) hx hb dL_currentOf_7 rfl ?_
  refine va_last hx hb hKJ hP hD hS 0 0 rfl rfl (vp_in_nI (n := 0) (N := 1) (by decide) (by decide)) dL_currentOf_8 (fun H locs hP hD hS => ?_)
  rw [nI_clamp (by decide)] at hP hD
  refine lv_goto (tgt := 15) hx hb dL_currentOf_9 (by decide) ?_
  refine lv_iconst (v := nI 0) hx hb dL_currentOf_15 (by decide +kernel) ?_
  exact W.iret hx hb hr (fun t ht hW => ⟨rfl, by rw [ht]; exact ⟨W', hX', hP, hD⟩, hS.F ht⟩) hS.2.2 dL_currentOf_16
set_option maxHeartbeats 4000000 in
set_option maxRecDepth 100000 in
theorem CL_currentOf_e1 (l : Launch) (hlt : l.stackTraces = false) (G : eG) (cJ : ClassId) {ou : Nat} {fe B : Nat} {f sf : Nat → Int32} {ff : Nat → Nat → Int32} {old sz len : Nat} {tx : Nat → Int32} {hsn : Int32} {WC : va_W} (hX : XS G fe f sf ff old sz len tx hsn WC) (hR : PR B f sf ff old sz len tx hsn) (hB : B < 700000000) (p0 : Int32) (hNo : ¬ (nI 0 ≤ p0 ∧ p0 ≤ nI 23)) : Met l yL_currentOf wsL_currentOf ({ frames := 7, cells := 1, slots := 6, locals := 103 }) (PL [.ref fe, .int p0, .ref ou] G cJ (fun H => va_P G.1 vwCl WC H ∧ va_D (fun _ => True) WC)) (MV (some (.int (nI 1))) (fun _ => True) noA) 1 6 noA := by
  refine ofBL (cc := cL_currentOf) (maxL := 4) (ret := some .int) (by decide) rfl (Nat.le_of_ble_eq_true rfl) ?_
  intro p e s m below meth c hx hb hr hlocks hml hown hin hts hE hJ hKJ hI htab ls hl
  replace hown : s.vm.findClass RL = some m.cls := hown
  have hl : lv_has ls 4 [(0, .ref fe), (1, .int p0), (2, .ref ou)] := hl
  obtain ⟨hP, hD0⟩ := hI
  have hRv := xs_recv hE.1 hX hP
  obtain ⟨an, tn, sn, v0, v1, w, tf, tv0, tv1, tw, sv0, sv1, sw, ha, sv, ad, aa, vv0, vv1, ww, oa, co, rfl, hcp, hst, hcs, hcf, had⟩ := hX
  obtain ⟨ho, hos, hof, hold, hz, htx, hk01⟩ := hR
  have hs := okf_shp (by omega) ho
  have hsS := okf_shp (by omega) hos
  have hrg : ∀ k, k < 6 → Shp (ff k) := fun k hk => okf_shp (by omega) (hof k hk)
  have heok := eR_ok htx
  have hrt := rR_le (nn tx) len
  have hS : va_S noA s.heap s.heap [] := va_S.rf
  refine lv_aload_n hx hb dL_currentOf_0 rfl (lv_at hl 2 rfl) ?_
  refine lv_iconst (v := nI 0) hx hb dL_currentOf_1 (by decide +kernel) ?_
  refine lv_aload_n hx hb dL_currentOf_2 rfl (lv_at hl 0 rfl) ?_
  refine lv_iload_n hx hb dL_currentOf_3 rfl (lv_at hl 1 rfl) ?_
  refine xcall (vx_runV (As := [.int p0]) (rest := [.int (nI 0), .ref ou]) ⟨hx, hb, hml, hown, hts⟩ (c_X5_currentOf_e1 l hlt G fe p0 hNo) (cwV 1 hts gL_currentOf_X5_currentOf rfl rfl rfl (by decide +kernel) ⟨Nat.le_of_ble_eq_true rfl, Nat.le_of_ble_eq_true rfl⟩) (PJ.preV hE hJ hRv P_nil) rfl rfl hl.1 rfl (lv_room (Nat.le_of_ble_eq_true rfl)) dL_currentOf_4 ⟨Nat.le_of_ble_eq_true rfl, Nat.le_of_ble_eq_true rfl⟩) hS (fun H locs xq ce hk hS hq hv hc => ?_)
  refine vx_catch hown [] (⟨0, 9, 12, 13⟩ : ExceptionTableEntry) [] (htab.trans rfl) (fun z hz => by cases hz) (by decide) (by decide) (hts (.classLink RL 13 "java/lang/IndexOutOfBoundsException") (by decide +kernel)) (va_Nw.use rfl (hJ.2.2.2.1 "java/lang/IndexOutOfBoundsException" (by decide))) hq hv hc ?_
  refine lv_astore_n (lv' := [(3, .ref xq), (0, .ref fe), (1, .int p0), (2, .ref ou)]) hx hb dL_currentOf_12 rfl hl (by decide) rfl (fun ls hl => ?_)
  refine lv_iconst (v := nI 1) hx hb dL_currentOf_13 (by decide +kernel) ?_
  exact W.iret hx hb hr (fun t ht hW => ⟨rfl, trivial, hS.F ht⟩) hS.2.2 dL_currentOf_14
set_option maxHeartbeats 4000000 in
set_option maxRecDepth 100000 in
theorem CL_setting_ok (l : Launch) (G : eG) (cJ : ClassId) {ou : Nat} {lo : Nat → Int64} {fe B : Nat} {f sf : Nat → Int32} {ff : Nat → Nat → Int32} {old sz len : Nat} {tx : Nat → Int32} {hsn : Int32} {WC : va_W} (hX : XS G fe f sf ff old sz len tx hsn WC) (hR : PR B f sf ff old sz len tx hsn) (hB : B < 700000000) (s0 : Nat) (hs3 : s0 < 3) : Met l yL_setting wsL_setting ({ frames := 2, cells := 0, slots := 0, locals := 43 }) (PL [.ref fe, .int (nI s0), .ref ou] G cJ (fun H => va_P G.1 vwCl ([(ou, .inl (cJ, 1, .inr (.inl lo)))] ++ WC) H ∧ va_D (fun _ => True) ([(ou, .inl (cJ, 1, .inr (.inl lo)))] ++ WC))) (MV (some (.int (nI 0))) (fun H => ∃ W', XS G fe f sf ff old sz len tx hsn W' ∧ va_P G.1 vwCl ([(ou, .inl (cJ, 1, .inr (.inl (vp_updL lo 0 (((f s0)).toInt64)))))] ++ W') H ∧ va_D (inW ([(ou, .inl (cJ, 1, .inr (.inl lo)))] ++ WC)) ([(ou, .inl (cJ, 1, .inr (.inl (vp_updL lo 0 (((f s0)).toInt64)))))] ++ W')) (inW ([(ou, .inl (cJ, 1, .inr (.inl lo)))] ++ WC))) 0 0 (inW ([(ou, .inl (cJ, 1, .inr (.inl lo)))] ++ WC)) := by
  refine ofBL (cc := cL_setting) (maxL := 4) (ret := some .int) (by decide) rfl (Nat.le_of_ble_eq_true rfl) ?_
  intro p e s m below meth c hx hb hr hlocks hml hown hin hts hE hJ hKJ hI htab ls hl
  replace hown : s.vm.findClass RL = some m.cls := hown
  have hl : lv_has ls 4 [(0, .ref fe), (1, .int (nI s0)), (2, .ref ou)] := hl
  obtain ⟨hP, hD0⟩ := hI
  have hD : va_D (inW ([(ou, .inl (cJ, 1, .inr (.inl lo)))] ++ WC)) ([(ou, .inl (cJ, 1, .inr (.inl lo)))] ++ WC) := D_self hD0
  obtain ⟨A, hAe⟩ : ∃ A, A = inW ([(ou, .inl (cJ, 1, .inr (.inl lo)))] ++ WC) := ⟨_, rfl⟩
  rw [← hAe] at hD ⊢
  have hS : va_S A s.heap s.heap [] := va_S.rf
  obtain ⟨H, hHe⟩ : ∃ H, H = s.heap := ⟨_, rfl⟩
  obtain ⟨locs, hle⟩ : ∃ q : List Loc, q = [] := ⟨_, rfl⟩
  rw [← hle] at hS ⊢
  have hP : va_P G.1 vwCl (WC ++ [(ou, .inl (cJ, 1, .inr (.inl lo)))]) H := by rw [hHe]; exact P_perm List.perm_append_comm hP
  replace hD : va_D A (WC ++ [(ou, .inl (cJ, 1, .inr (.inl lo)))]) := D_perm List.perm_append_comm hD
  replace hS : va_S A s.heap H locs := by rw [hHe]; exact hS
  replace hJ : JX s H := by rw [hHe]; exact hJ
  refine tH hHe ?_
  refine lv_aload_n hx hb dL_setting_0 rfl (lv_at hl 2 rfl) ?_
  refine lv_iconst (v := nI 0) hx hb dL_setting_1 (by decide +kernel) ?_
  refine lv_aload_n hx hb dL_setting_2 rfl (lv_at hl 0 rfl) ?_
  refine lv_iload_n hx hb dL_setting_3 rfl (lv_at hl 1 rfl) ?_
  have hPc := P_pre hP
  have hDc := D_pre hD
  refine mcall (st1 := [.int (f s0), .int (nI 0), .ref ou]) (va_runV (As := [.int (nI s0)]) (rest := [.int (nI 0), .ref ou]) ⟨hx, hb, hml, hown, hts⟩ (CX_setting_ok l G hX hR hB s0 hs3) (cwV 1 hts gL_setting_X5_setting rfl rfl rfl (by decide +kernel) ⟨Nat.le_of_ble_eq_true rfl, Nat.le_of_ble_eq_true rfl⟩) (PJ.preV hE hJ (xs_recv hE.1 hX hPc) ⟨hPc, hDc.weaken (fun _ _ _ _ => trivial)⟩) rfl rfl hl.1 rfl (lv_room (Nat.le_of_ble_eq_true rfl)) dL_setting_4 ⟨Nat.zero_le _, Nat.zero_le _⟩) hS (fun q _ h => inW_D hDc q h) (fun q h => inW_D hDc q h) rfl (fun H1 locs1 hB9 hz1 hk1 hS => ?_)
  obtain ⟨W', hX', hP1, hD1⟩ := hB9
  obtain ⟨hP, hD⟩ := jnF (w1 := W') hP hD hk1 hP1 hD1
  generalize H1 = H at hP hS ⊢
  replace hP : va_P G.1 vwCl ([(ou, .inl (cJ, 1, .inr (.inl lo)))] ++ W') H := P_perm List.perm_append_comm hP
  replace hD : va_D A ([(ou, .inl (cJ, 1, .inr (.inl lo)))] ++ W') := D_perm List.perm_append_comm hD
  refine lv_i2l (v := ((f s0)).toInt64) hx hb dL_setting_7 rfl ?_
  refine va_last hx hb hKJ hP hD hS 0 0 rfl rfl (vp_in_nI (n := 0) (N := 1) (by decide) (by decide)) dL_setting_8 (fun H locs hP hD hS => ?_)
  rw [nI_clamp (by decide)] at hP hD
  refine lv_goto (tgt := 15) hx hb dL_setting_9 (by decide) ?_
  refine lv_iconst (v := nI 0) hx hb dL_setting_15 (by decide +kernel) ?_
  exact W.iret hx hb hr (fun t ht hW => ⟨rfl, by rw [ht]; exact ⟨W', hX', hP, hD⟩, hS.F ht⟩) hS.2.2 dL_setting_16
set_option maxHeartbeats 4000000 in
set_option maxRecDepth 100000 in
theorem CL_setting_e1 (l : Launch) (hlt : l.stackTraces = false) (G : eG) (cJ : ClassId) {ou : Nat} {fe B : Nat} {f sf : Nat → Int32} {ff : Nat → Nat → Int32} {old sz len : Nat} {tx : Nat → Int32} {hsn : Int32} {WC : va_W} (hX : XS G fe f sf ff old sz len tx hsn WC) (hR : PR B f sf ff old sz len tx hsn) (hB : B < 700000000) (p0 : Int32) (hNo : ¬ (nI 0 ≤ p0 ∧ p0 ≤ nI 2)) : Met l yL_setting wsL_setting ({ frames := 7, cells := 1, slots := 6, locals := 103 }) (PL [.ref fe, .int p0, .ref ou] G cJ (fun H => va_P G.1 vwCl WC H ∧ va_D (fun _ => True) WC)) (MV (some (.int (nI 1))) (fun _ => True) noA) 1 6 noA := by
  refine ofBL (cc := cL_setting) (maxL := 4) (ret := some .int) (by decide) rfl (Nat.le_of_ble_eq_true rfl) ?_
  intro p e s m below meth c hx hb hr hlocks hml hown hin hts hE hJ hKJ hI htab ls hl
  replace hown : s.vm.findClass RL = some m.cls := hown
  have hl : lv_has ls 4 [(0, .ref fe), (1, .int p0), (2, .ref ou)] := hl
  obtain ⟨hP, hD0⟩ := hI
  have hRv := xs_recv hE.1 hX hP
  obtain ⟨an, tn, sn, v0, v1, w, tf, tv0, tv1, tw, sv0, sv1, sw, ha, sv, ad, aa, vv0, vv1, ww, oa, co, rfl, hcp, hst, hcs, hcf, had⟩ := hX
  obtain ⟨ho, hos, hof, hold, hz, htx, hk01⟩ := hR
  have hs := okf_shp (by omega) ho
  have hsS := okf_shp (by omega) hos
  have hrg : ∀ k, k < 6 → Shp (ff k) := fun k hk => okf_shp (by omega) (hof k hk)
  have heok := eR_ok htx
  have hrt := rR_le (nn tx) len
  have hS : va_S noA s.heap s.heap [] := va_S.rf
  refine lv_aload_n hx hb dL_setting_0 rfl (lv_at hl 2 rfl) ?_
  refine lv_iconst (v := nI 0) hx hb dL_setting_1 (by decide +kernel) ?_
  refine lv_aload_n hx hb dL_setting_2 rfl (lv_at hl 0 rfl) ?_
  refine lv_iload_n hx hb dL_setting_3 rfl (lv_at hl 1 rfl) ?_
  refine xcall (vx_runV (As := [.int p0]) (rest := [.int (nI 0), .ref ou]) ⟨hx, hb, hml, hown, hts⟩ (c_X5_setting_e1 l hlt G fe p0 hNo) (cwV 1 hts gL_setting_X5_setting rfl rfl rfl (by decide +kernel) ⟨Nat.le_of_ble_eq_true rfl, Nat.le_of_ble_eq_true rfl⟩) (PJ.preV hE hJ hRv P_nil) rfl rfl hl.1 rfl (lv_room (Nat.le_of_ble_eq_true rfl)) dL_setting_4 ⟨Nat.le_of_ble_eq_true rfl, Nat.le_of_ble_eq_true rfl⟩) hS (fun H locs xq ce hk hS hq hv hc => ?_)
  refine vx_catch hown [] (⟨0, 9, 12, 13⟩ : ExceptionTableEntry) [] (htab.trans rfl) (fun z hz => by cases hz) (by decide) (by decide) (hts (.classLink RL 13 "java/lang/IndexOutOfBoundsException") (by decide +kernel)) (va_Nw.use rfl (hJ.2.2.2.1 "java/lang/IndexOutOfBoundsException" (by decide))) hq hv hc ?_
  refine lv_astore_n (lv' := [(3, .ref xq), (0, .ref fe), (1, .int p0), (2, .ref ou)]) hx hb dL_setting_12 rfl hl (by decide) rfl (fun ls hl => ?_)
  refine lv_iconst (v := nI 1) hx hb dL_setting_13 (by decide +kernel) ?_
  exact W.iret hx hb hr (fun t ht hW => ⟨rfl, trivial, hS.F ht⟩) hS.2.2 dL_setting_14
set_option maxHeartbeats 4000000 in
set_option maxRecDepth 100000 in
theorem CL_ifLoaded_ok (l : Launch) (G : eG) (cJ : ClassId) {ou : Nat} {lo : Nat → Int64} {fe B : Nat} {f sf : Nat → Int32} {ff : Nat → Nat → Int32} {old sz len : Nat} {tx : Nat → Int32} {hsn : Int32} {WC : va_W} (hX : XS G fe f sf ff old sz len tx hsn WC) (hR : PR B f sf ff old sz len tx hsn) (hB : B < 700000000) (q : Nat) (hq : q < 2) : Met l yL_ifLoaded wsL_ifLoaded ({ frames := 5, cells := 0, slots := 0, locals := 124 }) (PL [.ref fe, .int (nI q), .ref ou] G cJ (fun H => va_P G.1 vwCl ([(ou, .inl (cJ, 1, .inr (.inl lo)))] ++ WC) H ∧ va_D (fun _ => True) ([(ou, .inl (cJ, 1, .inr (.inl lo)))] ++ WC))) (MV (some (.int (nI 0))) (fun H => ∃ W', XS G fe f sf ff old sz len tx hsn W' ∧ va_P G.1 vwCl ([(ou, .inl (cJ, 1, .inr (.inl (vp_updL lo 0 (((fWl f q)).toInt64)))))] ++ W') H ∧ va_D (inW ([(ou, .inl (cJ, 1, .inr (.inl lo)))] ++ WC)) ([(ou, .inl (cJ, 1, .inr (.inl (vp_updL lo 0 (((fWl f q)).toInt64)))))] ++ W')) (inW ([(ou, .inl (cJ, 1, .inr (.inl lo)))] ++ WC))) 0 0 (inW ([(ou, .inl (cJ, 1, .inr (.inl lo)))] ++ WC)) := by
  refine ofBL (cc := cL_ifLoaded) (maxL := 4) (ret := some .int) (by decide) rfl (Nat.le_of_ble_eq_true rfl) ?_
  intro p e s m below meth c hx hb hr hlocks hml hown hin hts hE hJ hKJ hI htab ls hl
  replace hown : s.vm.findClass RL = some m.cls := hown
  have hl : lv_has ls 4 [(0, .ref fe), (1, .int (nI q)), (2, .ref ou)] := hl
  obtain ⟨hP, hD0⟩ := hI
  have hD : va_D (inW ([(ou, .inl (cJ, 1, .inr (.inl lo)))] ++ WC)) ([(ou, .inl (cJ, 1, .inr (.inl lo)))] ++ WC) := D_self hD0
  obtain ⟨A, hAe⟩ : ∃ A, A = inW ([(ou, .inl (cJ, 1, .inr (.inl lo)))] ++ WC) := ⟨_, rfl⟩
  rw [← hAe] at hD ⊢
  have hS : va_S A s.heap s.heap [] := va_S.rf
  obtain ⟨H, hHe⟩ : ∃ H, H = s.heap := ⟨_, rfl⟩
  obtain ⟨locs, hle⟩ : ∃ q : List Loc, q = [] := ⟨_, rfl⟩
  rw [← hle] at hS ⊢
  have hP : va_P G.1 vwCl (WC ++ [(ou, .inl (cJ, 1, .inr (.inl lo)))]) H := by rw [hHe]; exact P_perm List.perm_append_comm hP
  replace hD : va_D A (WC ++ [(ou, .inl (cJ, 1, .inr (.inl lo)))]) := D_perm List.perm_append_comm hD
  replace hS : va_S A s.heap H locs := by rw [hHe]; exact hS
  replace hJ : JX s H := by rw [hHe]; exact hJ
  refine tH hHe ?_
  refine lv_aload_n hx hb dL_ifLoaded_0 rfl (lv_at hl 2 rfl) ?_
  refine lv_iconst (v := nI 0) hx hb dL_ifLoaded_1 (by decide +kernel) ?_
  refine lv_aload_n hx hb dL_ifLoaded_2 rfl (lv_at hl 0 rfl) ?_
  refine lv_iload_n hx hb dL_ifLoaded_3 rfl (lv_at hl 1 rfl) ?_
  have hPc := P_pre hP
  have hDc := D_pre hD
  refine mcall (st1 := [.int (fWl f q), .int (nI 0), .ref ou]) (va_runV (As := [.int (nI q)]) (rest := [.int (nI 0), .ref ou]) ⟨hx, hb, hml, hown, hts⟩ (CX_ifLoaded_ok l G hX hR hB q hq) (cwV 1 hts gL_ifLoaded_X5_ifLoaded rfl rfl rfl (by decide +kernel) ⟨Nat.le_of_ble_eq_true rfl, Nat.le_of_ble_eq_true rfl⟩) (PJ.preV hE hJ (xs_recv hE.1 hX hPc) ⟨hPc, hDc.weaken (fun _ _ _ _ => trivial)⟩) rfl rfl hl.1 rfl (lv_room (Nat.le_of_ble_eq_true rfl)) dL_ifLoaded_4 ⟨Nat.zero_le _, Nat.zero_le _⟩) hS (fun q _ h => inW_D hDc q h) (fun q h => inW_D hDc q h) rfl (fun H1 locs1 hB9 hz1 hk1 hS => ?_)
  obtain ⟨W', hX', hP1, hD1⟩ := hB9
  obtain ⟨hP, hD⟩ := jnF (w1 := W') hP hD hk1 hP1 hD1
  generalize H1 = H at hP hS ⊢
  replace hP : va_P G.1 vwCl ([(ou, .inl (cJ, 1, .inr (.inl lo)))] ++ W') H := P_perm List.perm_append_comm hP
  replace hD : va_D A ([(ou, .inl (cJ, 1, .inr (.inl lo)))] ++ W') := D_perm List.perm_append_comm hD
  refine lv_i2l (v := ((fWl f q)).toInt64) hx hb dL_ifLoaded_7 rfl ?_
  refine va_last hx hb hKJ hP hD hS 0 0 rfl rfl (vp_in_nI (n := 0) (N := 1) (by decide) (by decide)) dL_ifLoaded_8 (fun H locs hP hD hS => ?_)
  rw [nI_clamp (by decide)] at hP hD
  refine lv_goto (tgt := 15) hx hb dL_ifLoaded_9 (by decide) ?_
  refine lv_iconst (v := nI 0) hx hb dL_ifLoaded_15 (by decide +kernel) ?_
  exact W.iret hx hb hr (fun t ht hW => ⟨rfl, by rw [ht]; exact ⟨W', hX', hP, hD⟩, hS.F ht⟩) hS.2.2 dL_ifLoaded_16
set_option maxHeartbeats 4000000 in
set_option maxRecDepth 100000 in
theorem CL_ifLoaded_e1 (l : Launch) (hlt : l.stackTraces = false) (G : eG) (cJ : ClassId) {ou : Nat} {fe B : Nat} {f sf : Nat → Int32} {ff : Nat → Nat → Int32} {old sz len : Nat} {tx : Nat → Int32} {hsn : Int32} {WC : va_W} (hX : XS G fe f sf ff old sz len tx hsn WC) (hR : PR B f sf ff old sz len tx hsn) (hB : B < 700000000) (p0 : Int32) (hNo : ¬ (nI 0 ≤ p0 ∧ p0 ≤ nI 1)) : Met l yL_ifLoaded wsL_ifLoaded ({ frames := 7, cells := 1, slots := 6, locals := 103 }) (PL [.ref fe, .int p0, .ref ou] G cJ (fun H => va_P G.1 vwCl WC H ∧ va_D (fun _ => True) WC)) (MV (some (.int (nI 1))) (fun _ => True) noA) 1 6 noA := by
  refine ofBL (cc := cL_ifLoaded) (maxL := 4) (ret := some .int) (by decide) rfl (Nat.le_of_ble_eq_true rfl) ?_
  intro p e s m below meth c hx hb hr hlocks hml hown hin hts hE hJ hKJ hI htab ls hl
  replace hown : s.vm.findClass RL = some m.cls := hown
  have hl : lv_has ls 4 [(0, .ref fe), (1, .int p0), (2, .ref ou)] := hl
  obtain ⟨hP, hD0⟩ := hI
  have hRv := xs_recv hE.1 hX hP
  obtain ⟨an, tn, sn, v0, v1, w, tf, tv0, tv1, tw, sv0, sv1, sw, ha, sv, ad, aa, vv0, vv1, ww, oa, co, rfl, hcp, hst, hcs, hcf, had⟩ := hX
  obtain ⟨ho, hos, hof, hold, hz, htx, hk01⟩ := hR
  have hs := okf_shp (by omega) ho
  have hsS := okf_shp (by omega) hos
  have hrg : ∀ k, k < 6 → Shp (ff k) := fun k hk => okf_shp (by omega) (hof k hk)
  have heok := eR_ok htx
  have hrt := rR_le (nn tx) len
  have hS : va_S noA s.heap s.heap [] := va_S.rf
  refine lv_aload_n hx hb dL_ifLoaded_0 rfl (lv_at hl 2 rfl) ?_
  refine lv_iconst (v := nI 0) hx hb dL_ifLoaded_1 (by decide +kernel) ?_
  refine lv_aload_n hx hb dL_ifLoaded_2 rfl (lv_at hl 0 rfl) ?_
  refine lv_iload_n hx hb dL_ifLoaded_3 rfl (lv_at hl 1 rfl) ?_
  refine xcall (vx_runV (As := [.int p0]) (rest := [.int (nI 0), .ref ou]) ⟨hx, hb, hml, hown, hts⟩ (c_X5_ifLoaded_e1 l hlt G fe p0 hNo) (cwV 1 hts gL_ifLoaded_X5_ifLoaded rfl rfl rfl (by decide +kernel) ⟨Nat.le_of_ble_eq_true rfl, Nat.le_of_ble_eq_true rfl⟩) (PJ.preV hE hJ hRv P_nil) rfl rfl hl.1 rfl (lv_room (Nat.le_of_ble_eq_true rfl)) dL_ifLoaded_4 ⟨Nat.le_of_ble_eq_true rfl, Nat.le_of_ble_eq_true rfl⟩) hS (fun H locs xq ce hk hS hq hv hc => ?_)
  refine vx_catch hown [] (⟨0, 9, 12, 13⟩ : ExceptionTableEntry) [] (htab.trans rfl) (fun z hz => by cases hz) (by decide) (by decide) (hts (.classLink RL 13 "java/lang/IndexOutOfBoundsException") (by decide +kernel)) (va_Nw.use rfl (hJ.2.2.2.1 "java/lang/IndexOutOfBoundsException" (by decide))) hq hv hc ?_
  refine lv_astore_n (lv' := [(3, .ref xq), (0, .ref fe), (1, .int p0), (2, .ref ou)]) hx hb dL_ifLoaded_12 rfl hl (by decide) rfl (fun ls hl => ?_)
  refine lv_iconst (v := nI 1) hx hb dL_ifLoaded_13 (by decide +kernel) ?_
  exact W.iret hx hb hr (fun t ht hW => ⟨rfl, trivial, hS.F ht⟩) hS.2.2 dL_ifLoaded_14
set_option maxHeartbeats 4000000 in
set_option maxRecDepth 100000 in
theorem CL_leastList_ok (l : Launch) (G : eG) (cJ : ClassId) {ou : Nat} {lo : Nat → Int64} {fe B : Nat} {f sf : Nat → Int32} {ff : Nat → Nat → Int32} {old sz len : Nat} {tx : Nat → Int32} {hsn : Int32} {WC : va_W} (hX : XS G fe f sf ff old sz len tx hsn WC) (hR : PR B f sf ff old sz len tx hsn) (hB : B < 700000000) (v : Nat) (hv : v ≤ 8) : Met l yL_leastList wsL_leastList ({ frames := 5, cells := 0, slots := 0, locals := 114 }) (PL [.ref fe, .int (nI v), .ref ou] G cJ (fun H => va_P G.1 vwCl ([(ou, .inl (cJ, 1, .inr (.inl lo)))] ++ WC) H ∧ va_D (fun _ => True) ([(ou, .inl (cJ, 1, .inr (.inl lo)))] ++ WC))) (MV (some (.int (nI 0))) (fun H => ∃ W', XS G fe f sf ff old sz len tx hsn W' ∧ va_P G.1 vwCl ([(ou, .inl (cJ, 1, .inr (.inl (vp_updL lo 0 (((fLs f v)).toInt64)))))] ++ W') H ∧ va_D (inW ([(ou, .inl (cJ, 1, .inr (.inl lo)))] ++ WC)) ([(ou, .inl (cJ, 1, .inr (.inl (vp_updL lo 0 (((fLs f v)).toInt64)))))] ++ W')) (inW ([(ou, .inl (cJ, 1, .inr (.inl lo)))] ++ WC))) 0 0 (inW ([(ou, .inl (cJ, 1, .inr (.inl lo)))] ++ WC)) := by
  refine ofBL (cc := cL_leastList) (maxL := 4) (ret := some .int) (by decide) rfl (Nat.le_of_ble_eq_true rfl) ?_
  intro p e s m below meth c hx hb hr hlocks hml hown hin hts hE hJ hKJ hI htab ls hl
  replace hown : s.vm.findClass RL = some m.cls := hown
  have hl : lv_has ls 4 [(0, .ref fe), (1, .int (nI v)), (2, .ref ou)] := hl
  obtain ⟨hP, hD0⟩ := hI
  have hD : va_D (inW ([(ou, .inl (cJ, 1, .inr (.inl lo)))] ++ WC)) ([(ou, .inl (cJ, 1, .inr (.inl lo)))] ++ WC) := D_self hD0
  obtain ⟨A, hAe⟩ : ∃ A, A = inW ([(ou, .inl (cJ, 1, .inr (.inl lo)))] ++ WC) := ⟨_, rfl⟩
  rw [← hAe] at hD ⊢
  have hS : va_S A s.heap s.heap [] := va_S.rf
  obtain ⟨H, hHe⟩ : ∃ H, H = s.heap := ⟨_, rfl⟩
  obtain ⟨locs, hle⟩ : ∃ q : List Loc, q = [] := ⟨_, rfl⟩
  rw [← hle] at hS ⊢
  have hP : va_P G.1 vwCl (WC ++ [(ou, .inl (cJ, 1, .inr (.inl lo)))]) H := by rw [hHe]; exact P_perm List.perm_append_comm hP
  replace hD : va_D A (WC ++ [(ou, .inl (cJ, 1, .inr (.inl lo)))]) := D_perm List.perm_append_comm hD
  replace hS : va_S A s.heap H locs := by rw [hHe]; exact hS
  replace hJ : JX s H := by rw [hHe]; exact hJ
  refine tH hHe ?_
  refine lv_aload_n hx hb dL_leastList_0 rfl (lv_at hl 2 rfl) ?_
  refine lv_iconst (v := nI 0) hx hb dL_leastList_1 (by decide +kernel) ?_
  refine lv_aload_n hx hb dL_leastList_2 rfl (lv_at hl 0 rfl) ?_
  refine lv_iload_n hx hb dL_leastList_3 rfl (lv_at hl 1 rfl) ?_
  have hPc := P_pre hP
  have hDc := D_pre hD
  refine mcall (st1 := [.int (fLs f v), .int (nI 0), .ref ou]) (va_runV (As := [.int (nI v)]) (rest := [.int (nI 0), .ref ou]) ⟨hx, hb, hml, hown, hts⟩ (CX_leastList_ok l G hX hR hB v hv) (cwV 1 hts gL_leastList_X5_leastList rfl rfl rfl (by decide +kernel) ⟨Nat.le_of_ble_eq_true rfl, Nat.le_of_ble_eq_true rfl⟩) (PJ.preV hE hJ (xs_recv hE.1 hX hPc) ⟨hPc, hDc.weaken (fun _ _ _ _ => trivial)⟩) rfl rfl hl.1 rfl (lv_room (Nat.le_of_ble_eq_true rfl)) dL_leastList_4 ⟨Nat.zero_le _, Nat.zero_le _⟩) hS (fun q _ h => inW_D hDc q h) (fun q h => inW_D hDc q h) rfl (fun H1 locs1 hB9 hz1 hk1 hS => ?_)
  obtain ⟨W', hX', hP1, hD1⟩ := hB9
  obtain ⟨hP, hD⟩ := jnF (w1 := W') hP hD hk1 hP1 hD1
  generalize H1 = H at hP hS ⊢
  replace hP : va_P G.1 vwCl ([(ou, .inl (cJ, 1, .inr (.inl lo)))] ++ W') H := P_perm List.perm_append_comm hP
  replace hD : va_D A ([(ou, .inl (cJ, 1, .inr (.inl lo)))] ++ W') := D_perm List.perm_append_comm hD
  refine lv_i2l (v := ((fLs f v)).toInt64) hx hb dL_leastList_7 rfl ?_
  refine va_last hx hb hKJ hP hD hS 0 0 rfl rfl (vp_in_nI (n := 0) (N := 1) (by decide) (by decide)) dL_leastList_8 (fun H locs hP hD hS => ?_)
  rw [nI_clamp (by decide)] at hP hD
  refine lv_goto (tgt := 15) hx hb dL_leastList_9 (by decide) ?_
  refine lv_iconst (v := nI 0) hx hb dL_leastList_15 (by decide +kernel) ?_
  exact W.iret hx hb hr (fun t ht hW => ⟨rfl, by rw [ht]; exact ⟨W', hX', hP, hD⟩, hS.F ht⟩) hS.2.2 dL_leastList_16
set_option maxHeartbeats 4000000 in
set_option maxRecDepth 100000 in
theorem CL_leastList_e1 (l : Launch) (hlt : l.stackTraces = false) (G : eG) (cJ : ClassId) {ou : Nat} {fe B : Nat} {f sf : Nat → Int32} {ff : Nat → Nat → Int32} {old sz len : Nat} {tx : Nat → Int32} {hsn : Int32} {WC : va_W} (hX : XS G fe f sf ff old sz len tx hsn WC) (hR : PR B f sf ff old sz len tx hsn) (hB : B < 700000000) (p0 : Int32) (hNo : ¬ (nI 0 ≤ p0 ∧ p0 ≤ nI 8)) : Met l yL_leastList wsL_leastList ({ frames := 7, cells := 1, slots := 6, locals := 103 }) (PL [.ref fe, .int p0, .ref ou] G cJ (fun H => va_P G.1 vwCl WC H ∧ va_D (fun _ => True) WC)) (MV (some (.int (nI 1))) (fun _ => True) noA) 1 6 noA := by
  refine ofBL (cc := cL_leastList) (maxL := 4) (ret := some .int) (by decide) rfl (Nat.le_of_ble_eq_true rfl) ?_
  intro p e s m below meth c hx hb hr hlocks hml hown hin hts hE hJ hKJ hI htab ls hl
  replace hown : s.vm.findClass RL = some m.cls := hown
  have hl : lv_has ls 4 [(0, .ref fe), (1, .int p0), (2, .ref ou)] := hl
  obtain ⟨hP, hD0⟩ := hI
  have hRv := xs_recv hE.1 hX hP
  obtain ⟨an, tn, sn, v0, v1, w, tf, tv0, tv1, tw, sv0, sv1, sw, ha, sv, ad, aa, vv0, vv1, ww, oa, co, rfl, hcp, hst, hcs, hcf, had⟩ := hX
  obtain ⟨ho, hos, hof, hold, hz, htx, hk01⟩ := hR
  have hs := okf_shp (by omega) ho
  have hsS := okf_shp (by omega) hos
  have hrg : ∀ k, k < 6 → Shp (ff k) := fun k hk => okf_shp (by omega) (hof k hk)
  have heok := eR_ok htx
  have hrt := rR_le (nn tx) len
  have hS : va_S noA s.heap s.heap [] := va_S.rf
  refine lv_aload_n hx hb dL_leastList_0 rfl (lv_at hl 2 rfl) ?_
  refine lv_iconst (v := nI 0) hx hb dL_leastList_1 (by decide +kernel) ?_
  refine lv_aload_n hx hb dL_leastList_2 rfl (lv_at hl 0 rfl) ?_
  refine lv_iload_n hx hb dL_leastList_3 rfl (lv_at hl 1 rfl) ?_
  refine xcall (vx_runV (As := [.int p0]) (rest := [.int (nI 0), .ref ou]) ⟨hx, hb, hml, hown, hts⟩ (c_X5_leastList_e1 l hlt G fe p0 hNo) (cwV 1 hts gL_leastList_X5_leastList rfl rfl rfl (by decide +kernel) ⟨Nat.le_of_ble_eq_true rfl, Nat.le_of_ble_eq_true rfl⟩) (PJ.preV hE hJ hRv P_nil) rfl rfl hl.1 rfl (lv_room (Nat.le_of_ble_eq_true rfl)) dL_leastList_4 ⟨Nat.le_of_ble_eq_true rfl, Nat.le_of_ble_eq_true rfl⟩) hS (fun H locs xq ce hk hS hq hv hc => ?_)
  refine vx_catch hown [] (⟨0, 9, 12, 15⟩ : ExceptionTableEntry) [] (htab.trans rfl) (fun z hz => by cases hz) (by decide) (by decide) (hts (.classLink RL 15 "java/lang/IllegalArgumentException") (by decide +kernel)) (va_Nw.use rfl (hJ.2.2.2.1 "java/lang/IllegalArgumentException" (by decide))) hq hv hc ?_
  refine lv_astore_n (lv' := [(3, .ref xq), (0, .ref fe), (1, .int p0), (2, .ref ou)]) hx hb dL_leastList_12 rfl hl (by decide) rfl (fun ls hl => ?_)
  refine lv_iconst (v := nI 1) hx hb dL_leastList_13 (by decide +kernel) ?_
  exact W.iret hx hb hr (fun t ht hW => ⟨rfl, trivial, hS.F ht⟩) hS.2.2 dL_leastList_14

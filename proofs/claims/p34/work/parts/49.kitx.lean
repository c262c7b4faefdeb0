/-! statics and strings of the class at a start; what throws, what catches -/
def xIOB : String := "java/lang/IndexOutOfBoundsException"
def xIAE : String := "java/lang/IllegalArgumentException"
def xISE : String := "java/lang/IllegalStateException"
def strX : List (Nat × String) := [(46, "no such hour of the day"), (53, "current is out of range"), (72, "no such bank"), (74, "weight is out of range"), (82, "10 wait there"), (99, "no such lane"), (104, "none waits there, or the lane has 4"), (116, "it cannot cross"), (121, "hours is out of range"), (131, "sections is out of range"), (136, "there are not so many on the drum"), (150, "no such setting"), (158, "value is out of range"), (163, "code is not 33 to 126"), (168, "the buffer has 60 characters"), (183, "the buffer is not complete orders as a text"), (191, "there is no snapshot"), (194, "there is no saved state"), (199, "no such section"), (210, "what is not 0 to 2"), (212, "place is below 0"), (217, "place is below 0, or what is not 0 or 1"), (258, "what is not 0 to 13"), (266, "vehicles is out of range")]
def excX : List String := ["java/lang/IndexOutOfBoundsException", "java/lang/IllegalArgumentException", "java/lang/IllegalStateException"]
def decX : List MethodName := [Bundle.initS "java/lang/RuntimeException", Bundle.initS "java/lang/Exception", Bundle.initS Bundle.tN]
def fiS (j : Nat) : Nat := if j = 0 then 300 else if j = 1 then 12 else 10
def setX : List (String × (Nat → Nat)) := [("LEAST_SETTINGS", stLo), ("GREATEST_SETTINGS", stHi), ("FIRST_SETTINGS", fiS)]
def JX (U : State) (H : Heap) : Prop := vx_Zq Bundle.tN "UNASSIGNED_STACK" Bundle.steD noA U H ∧ vx_Zq Bundle.tN "SUPPRESSED_SENTINEL" Bundle.listD noA U H ∧ (∀ q ∈ strX, ∃ sa : Nat, vk_R RX5 q.1 q.2 sa U) ∧ (∀ E ∈ excX, va_Nw (.castable E E) U) ∧
  ((∀ x ∈ decX, va_Nw (.declares x) U) ∧ va_Nc "java/lang/IllegalArgumentException" "java/lang/IndexOutOfBoundsException" U ∧ va_Nc "java/lang/IllegalStateException" "java/lang/IndexOutOfBoundsException" U ∧ va_Nc "java/lang/IllegalStateException" "java/lang/IllegalArgumentException" U) ∧
  (∀ q ∈ setX, ∃ t : Nat, va_Z RX5 q.1 "[I" (.ref t) noA U H ∧ va_T .int t 3 (fun j => .int (nI (q.2 j))) noA U H)
theorem JX.warm {s U : State} {H : Heap} (hW : s.WarmedH U.vm) (h : JX s H) : JX U H := by
  obtain ⟨h1, h2, h3, h4, ⟨hd, h5, h6, h7⟩, h8⟩ := h
  refine ⟨vx_Zq.moved hW.alike h1, vx_Zq.moved hW.alike h2, fun q hq => ?_, fun E hE => va_Nw.warmC hW (h4 E hE), ⟨fun x hx => va_Nw.warmD hW (hd x hx), va_Nc.moved hW.alike h5, va_Nc.moved hW.alike h6, va_Nc.moved hW.alike h7⟩, fun q hq => ?_⟩
  · obtain ⟨sa, k⟩ := h3 q hq
    exact ⟨sa, vk_R.warm hW k⟩
  · obtain ⟨t, a, b⟩ := h8 q hq
    exact ⟨t, va_Z.moved hW.alike a, va_T.moved hW.alike b⟩
theorem JX.calling {U : State} {H : Heap} {g : JFrame} {mk : MethodId} {a : Array Value} (h : JX U H) : JX (U.calling g mk a) H := by
  obtain ⟨h1, h2, h3, h4, ⟨hd, h5, h6, h7⟩, h8⟩ := h
  refine ⟨vx_Zq.moved (u := U) (U := U.calling g mk a) (Vm.Alike.refl U.vm) h1, vx_Zq.moved (u := U) (U := U.calling g mk a) (Vm.Alike.refl U.vm) h2, fun q hq => ?_, fun E hE => va_Nw.same rfl rfl (h4 E hE), ⟨fun x hx => va_Nw.same rfl rfl (hd x hx), va_Nc.moved (u := U) (U := U.calling g mk a) (Vm.Alike.refl U.vm) h5, va_Nc.moved (u := U) (U := U.calling g mk a) (Vm.Alike.refl U.vm) h6, va_Nc.moved (u := U) (U := U.calling g mk a) (Vm.Alike.refl U.vm) h7⟩, fun q hq => ?_⟩
  · obtain ⟨sa, k⟩ := h3 q hq
    exact ⟨sa, vk_R.same (u := U) rfl k⟩
  · obtain ⟨t, x, y⟩ := h8 q hq
    exact ⟨t, va_Z.moved (u := U) (U := U.calling g mk a) (Vm.Alike.refl U.vm) x, va_T.moved (u := U) (U := U.calling g mk a) (Vm.Alike.refl U.vm) y⟩
theorem JX.kept {U : State} {H H1 : Heap} (h : JX U H) (hq : ∀ a : Nat, a < H.size → H1[a]? = H[a]?) : JX U H1 := by
  obtain ⟨h1, h2, h3, h4, h5, h8⟩ := h
  refine ⟨vx_Zq.kept h1 fun a ha _ => hq a ha, vx_Zq.kept h2 fun a ha _ => hq a ha, h3, h4, h5, fun q hq' => ?_⟩
  obtain ⟨t, x, y⟩ := h8 q hq'
  exact ⟨t, va_Z.kept x fun a ha _ => hq a ha, va_T.kept y fun a ha _ => hq a ha⟩
def PJ (As : List Value) (G : eG) (I : Heap → Prop) : Array Value → State → Prop := fun v U => v = As.toArray ∧ EV G U ∧ JX U U.heap ∧ I U.heap
theorem PJ.blind {As : List Value} {G : eG} {I : Heap → Prop} : FrameBlind (PJ As G I) := fun _ _ _ _ h => ⟨h.1, EV.calling h.2.1, JX.calling h.2.2.1, h.2.2.2⟩
theorem PJ.preS {As : List Value} {G : eG} {I : Heap → Prop} {s : State} {H : Heap} (hE : EV G s) (hJ : JX s H) (hI : I H) : PreS s H (PJ As G I) As := ⟨PJ.blind, fun U hU hW => ⟨rfl, EV.warm hW hE, by rw [hU]; exact JX.warm hW hJ, by rw [hU]; exact hI⟩⟩
theorem PJ.preV {As : List Value} {b : Nat} {C : String} {G : eG} {I : Heap → Prop} {s : State} {H : Heap} (hE : EV G s) (hJ : JX s H) (hr : ∃ cell : Cell, H[b]? = some cell ∧ cell.vm.isStatics = false ∧ s.vm.findClass C = some cell.cls) (hI : I H) : PreV s H C b (PJ (.ref b :: As) G I) As := ⟨PJ.blind, hr, fun U hU hW => ⟨rfl, EV.warm hW hE, by rw [hU]; exact JX.warm hW hJ, by rw [hU]; exact hI⟩⟩
/-- it throws an E0; nothing that was there before has changed -/
def XE (E0 : String) : String → State → State → Prop := fun E st t => E = E0 ∧ va_F noA st t
def QF : Array Value → State → Outcome → State → Prop := fun _ _ _ _ => False
/-- a method that may throw, from its entry -/
theorem ofBX {l : Launch} {y : MethodName} {ws ws' : List Cond} {rm : Room} {Qc : Array Value → State → Outcome → State → Prop} {XC : String → State → State → Prop} {mc ms : Nat} {free : Addr → Prop} {cc : ByteArray} {maxL : Nat} {ret : Option FieldType} {As : List Value} {G : eG} {I : Heap → Prop}
    (hy : plainName y.cls = true) (hw : ws = Cond.code y cc maxL ret :: ws') (hn : (lg_sl As).length ≤ maxL)
    (body : ∀ (p : Program) (e : Env) (s : State) (m : MethodId) (below : List Frame) (meth : Method) (c : Code), p.tables.exec = Jvm.exec → c.code = cc → meth.sig.returnType = ret → meth.locks = false → c.maxLocals = maxL → s.vm.findClass y.cls = some m.cls → meth.name = y.name → (∀ w ∈ ws, w.before As.toArray s = true) → EV G s → JX s s.heap → I s.heap → (∀ x ∈ c.exceptionTable.toList, False) →
      ∀ ls : Array Slot, lv_has ls maxL (lv_args 0 As) → W p l e rm s m As.toArray below meth c s.heap [] 0 0 (vx_MQ below Qc XC As.toArray s mc ms free) (F0 m 0 ls [])) : vx_Met l y ws rm (PJ As G I) Qc XC mc ms free := by
  refine vx_ofW hy hw ?_
  intro p e s m args below meth c s₁ B hml ht hv
  obtain ⟨rfl, hE, hJ, hI⟩ := hv
  have hl := lv_entry As (n := maxL) hn
  rw [lg_entry_eq]
  exact body p e s m below meth c B.exec B.bytes B.returns B.notSynchronized hml (findClass_of_methodNamed B.named) (name_of_methodNamed B.named B.method).1 (atoms_spec (ws := ws) B.pre) hE hJ hI ht _ hl
/-- a method that needs the statics -/
theorem ofBJ {l : Launch} {y : MethodName} {ws ws' : List Cond} {rm : Room} {Qc : Array Value → State → Outcome → State → Prop} {mc ms : Nat} {free : Addr → Prop} {cc : ByteArray} {maxL : Nat} {ret : Option FieldType} {As : List Value} {G : eG} {I : Heap → Prop}
    (hy : plainName y.cls = true) (hw : ws = Cond.code y cc maxL ret :: ws') (hn : (lg_sl As).length ≤ maxL)
    (body : ∀ (p : Program) (e : Env) (s : State) (m : MethodId) (below : List Frame) (meth : Method) (c : Code), p.tables.exec = Jvm.exec → c.code = cc → meth.sig.returnType = ret → meth.locks = false → c.maxLocals = maxL → s.vm.findClass y.cls = some m.cls → meth.name = y.name → (∀ w ∈ ws, w.before As.toArray s = true) → EV G s → JX s s.heap → I s.heap →
      ∀ ls : Array Slot, lv_has ls maxL (lv_args 0 As) → W p l e rm s m As.toArray below meth c s.heap [] 0 0 (MQ below Qc As.toArray s mc ms free) (F0 m 0 ls [])) : Met l y ws rm (PJ As G I) Qc mc ms free := by
  refine Met.ofW hy hw ?_
  intro p e s m args below meth c s₁ B hml hv
  obtain ⟨rfl, hE, hJ, hI⟩ := hv
  have hl := lv_entry As (n := maxL) hn
  rw [lg_entry_eq]
  exact body p e s m below meth c B.exec B.bytes B.returns B.notSynchronized hml (findClass_of_methodNamed B.named) (name_of_methodNamed B.named B.method).1 (atoms_spec (ws := ws) B.pre) hE hJ hI _ hl
/-- a method with handlers -/
theorem ofBW {l : Launch} {y : MethodName} {ws ws' : List Cond} {rm : Room} {Qc : Array Value → State → Outcome → State → Prop} {mc ms : Nat} {free : Addr → Prop} {cc : ByteArray} {maxL : Nat} {ret : Option FieldType} {hh : List (Nat × Nat × Nat × Nat)} {As : List Value} {G : eG} {I : Heap → Prop}
    (hy : plainName y.cls = true) (hw : ws = Cond.codeWith y cc maxL ret hh :: ws') (hn : (lg_sl As).length ≤ maxL)
    (body : ∀ (p : Program) (e : Env) (s : State) (m : MethodId) (below : List Frame) (meth : Method) (c : Code), p.tables.exec = Jvm.exec → c.code = cc → meth.sig.returnType = ret → meth.locks = false → c.maxLocals = maxL → s.vm.findClass y.cls = some m.cls → meth.name = y.name → (∀ w ∈ ws, w.before As.toArray s = true) → EV G s → JX s s.heap → I s.heap → c.exceptionTable.toList = tableOf hh →
      ∀ ls : Array Slot, lv_has ls maxL (lv_args 0 As) → W p l e rm s m As.toArray below meth c s.heap [] 0 0 (MQ below Qc As.toArray s mc ms free) (F0 m 0 ls [])) : Met l y ws rm (PJ As G I) Qc mc ms free := by
  refine va_MetW hy hw ?_
  intro p e s m args below meth c s₁ B hml hv
  obtain ⟨rfl, hE, hJ, hI⟩ := hv
  have hl := lv_entry As (n := maxL) hn
  rw [lg_entry_eq]
  exact body p e s m below meth c B.exec B.bytes B.returns B.notSynchronized hml (findClass_of_methodNamed B.named) (name_of_methodNamed B.named B.method).1 (atoms_spec (ws := ws) B.pre) hE hJ hI (vx_table (x := y) B (atoms_spec (ws := ws) B.pre _ (by rw [hw]; exact List.mem_cons_self))) _ hl
theorem P_kept {D : va_G} {cl : List vw_C} {ws : va_W} {H H1 : Heap} (h : va_P D cl ws H) (hq : ∀ a : Nat, a < H.size → H1[a]? = H[a]?) : va_P D cl ws H1 := fun k q hk => (h k q hk).kept (hq q.1 (h k q hk).lt)
section KTX
variable {p : Program} {l : Launch} {e : Env} {R : Room} {s : State} {m : MethodId} {args : Array Value} {below : List Frame} {meth : Method} {c : Code} {H : Heap} {locs : List Loc} {cells slots : Nat} {Q : State → Prop}
variable {cc : ByteArray} {pc : Nat} {ls : Array Slot} {rest st0 : List Value} {A0 : Nat → Prop} {H0 : Heap}
/-- a call that throws -/
theorem xcall {E0 : String} {mc ms : Nat} (hr : vx_Run p l e R s m args below meth c H locs cells slots mc ms (F0 m pc ls st0) rest (fun _ _ _ => False) (XE E0) noA) (hS : va_S A0 H0 H locs)
    (kk : ∀ (H1 : Heap) (locs1 : List Loc) (q : Addr) (ce : Cell), (∀ a : Nat, a < H.size → H1[a]? = H[a]?) → va_S A0 H0 H1 locs1 → H1[q]? = some ce → ce.vm = .none → s.vm.findClass E0 = some ce.cls → vx_W p l e R s m args below meth c H1 locs1 (cells + mc) (slots + ms) Q (F0 m pc ls rest) q) : W p l e R s m args below meth c H locs cells slots Q (F0 m pc ls st0) := by
  intro T hT X
  rcases hr T hT X with ⟨v, st₀, t, T', L, h0, X', hL, e1, e2, hq, st⟩ | ⟨q, st₀, t, T', L, E, ce, h0, X', hL, e1, e2, ⟨hx, hF⟩, hce, hcv, hcl, st⟩
  · exact hq.elim
  · subst hx
    obtain ⟨h1, h2, h3⟩ := vx_keep h0 e1 hS (fun q _ h => (h : False).elim) (fun q h => (h : False).elim) hL hF
    obtain ⟨t2, a1, b1⟩ := kk T'.heap (locs ++ L) q ce (fun a ha => h2 a ha (fun z => z)) h3 (by rw [e1]; exact hce) hcv hcl T' rfl X'
    exact ⟨t2, st.trans a1, b1⟩
/-- 'throw new E("text")' at a point where nothing is written yet -/
theorem xthrow {own cls text : String} {ik is ic : Nat} {ws : List Cond} (hx : p.tables.exec = Jvm.exec) (hb : c.code = cc) (hlt : l.stackTraces = false) (hown : s.vm.findClass own = some m.cls) (ho : own = RX5) (hin : cls ∈ excX) (hst : (is, text) ∈ strX) (hts : ∀ w ∈ ws, w.before args s = true)
    (hk : Cond.classLink own ik cls ∈ ws) (hini : Cond.initialized cls ∈ ws) (hat : ∀ w ∈ (vx_atS own ic cls ["java/lang/RuntimeException", "java/lang/Exception"]).filter goodWord, w ∈ ws)
    (hcls : Bundle.fit cls = true) (hgood : ∀ w ∈ Cond.classLink own ik cls :: Cond.initialized cls :: vx_atS own ic cls ["java/lang/RuntimeException", "java/lang/Exception"], vx_ot w = true) (hnot : ∀ w ∈ (vx_atS own ic cls ["java/lang/RuntimeException", "java/lang/Exception"]).filter (fun w => !goodWord w), w ∈ Cond.castable cls cls :: decX.map Cond.declares)
    (hJ : JX s s.heap) (hsize : ls.size = c.maxLocals) (d0 : decode cc pc = .ok (.new ik, 3)) (d3 : decode cc (pc + 3) = .ok (.dup, 1)) (d4 : decode cc (pc + 4) = .ok (.ldc is, 2)) (d6 : decode cc (pc + 6) = .ok (.invokespecial ic, 3)) (d9 : decode cc (pc + 9) = .ok (.athrow, 1)) (ht : ∀ x ∈ c.exceptionTable.toList, False)
    (hRf : 6 ≤ R.frames) (hRl : 82 ≤ R.locals) (hRc : 1 ≤ R.cells) (hRs : 6 ≤ R.slots) (hlocks : meth.locks = false) :
    W p l e R s m args below meth c s.heap [] 0 0 (vx_MQ below QF (XE cls) args s 1 6 noA) (F0 m pc ls []) := by
  subst ho
  obtain ⟨sa, hstr⟩ := hJ.2.2.1 _ hst
  have hca := hJ.2.2.2.1 _ hin
  exact vx_throwS (names := ["java/lang/RuntimeException", "java/lang/Exception"]) (A := noA) hx hb hlt hown hcls (by decide +kernel) (hts _ hk) (hts _ hini) hstr
    (vx_hat (B := Cond.castable cls cls :: decX.map Cond.declares) (fun w hw => hts w (hat w hw)) hnot (vx_c (va_Nw.use rfl hca) (fun w hw => by obtain ⟨x, hx, e⟩ := List.mem_map.mp hw; rw [← e]; exact va_Nw.use rfl (hJ.2.2.2.2.1.1 x hx)))) hgood hJ.1 hJ.2.1 va_S.rf hsize d0 d3 d4 d6 d9 (fun x hx => (ht x hx).elim)
    (by show 2 + 3 < R.frames; omega) (by show 0 + (13 * 3 + 43) ≤ R.locals; omega) (by omega) (by omega) hlocks (fun t hal hz hq => ⟨rfl, hz, fun q h _ => hq q h⟩) (fun _ h => nomatch h) (Nat.le_refl _) (Nat.le_refl _)
theorem xthrowW {own cls text : String} {ik is ic : Nat} {ws : List Cond} (hx : p.tables.exec = Jvm.exec) (hb : c.code = cc) (hlt : l.stackTraces = false) (hown : s.vm.findClass own = some m.cls) (ho : own = RX5) (hin : cls ∈ excX) (hst : (is, text) ∈ strX) (hts : ∀ w ∈ ws, w.before args s = true)
    (hk : Cond.classLink own ik cls ∈ ws) (hini : Cond.initialized cls ∈ ws) (hat : ∀ w ∈ (vx_atS own ic cls ["java/lang/RuntimeException", "java/lang/Exception"]).filter goodWord, w ∈ ws)
    (hcls : Bundle.fit cls = true) (hgood : ∀ w ∈ Cond.classLink own ik cls :: Cond.initialized cls :: vx_atS own ic cls ["java/lang/RuntimeException", "java/lang/Exception"], vx_ot w = true) (hnot : ∀ w ∈ (vx_atS own ic cls ["java/lang/RuntimeException", "java/lang/Exception"]).filter (fun w => !goodWord w), w ∈ Cond.castable cls cls :: decX.map Cond.declares)
    (hJ : JX s s.heap) (hsize : ls.size = c.maxLocals) (d0 : decode cc pc = .ok (.new ik, 3)) (d3 : decode cc (pc + 3) = .ok (.dup, 1)) (d4 : decode cc (pc + 4) = .ok (.ldc_w is, 3)) (d7 : decode cc (pc + 7) = .ok (.invokespecial ic, 3)) (d10 : decode cc (pc + 10) = .ok (.athrow, 1)) (ht : ∀ x ∈ c.exceptionTable.toList, False)
    (hRf : 6 ≤ R.frames) (hRl : 82 ≤ R.locals) (hRc : 1 ≤ R.cells) (hRs : 6 ≤ R.slots) (hlocks : meth.locks = false) :
    W p l e R s m args below meth c s.heap [] 0 0 (vx_MQ below QF (XE cls) args s 1 6 noA) (F0 m pc ls []) := by
  subst ho
  obtain ⟨sa, hstr⟩ := hJ.2.2.1 _ hst
  have hca := hJ.2.2.2.1 _ hin
  exact vx_throwSW (names := ["java/lang/RuntimeException", "java/lang/Exception"]) (A := noA) hx hb hlt hown hcls (by decide +kernel) (hts _ hk) (hts _ hini) hstr
    (vx_hat (B := Cond.castable cls cls :: decX.map Cond.declares) (fun w hw => hts w (hat w hw)) hnot (vx_c (va_Nw.use rfl hca) (fun w hw => by obtain ⟨x, hx, e⟩ := List.mem_map.mp hw; rw [← e]; exact va_Nw.use rfl (hJ.2.2.2.2.1.1 x hx)))) hgood hJ.1 hJ.2.1 va_S.rf hsize d0 d3 d4 d7 d10 (fun x hx => (ht x hx).elim)
    (by show 2 + 3 < R.frames; omega) (by show 0 + (13 * 3 + 43) ≤ R.locals; omega) (by omega) (by omega) hlocks (fun t hal hz hq => ⟨rfl, hz, fun q h _ => hq q h⟩) (fun _ h => nomatch h) (Nat.le_refl _) (Nat.le_refl _)
/-- ldc_w of a float -/
theorem lv_ldcwf (hexec : p.tables.exec = Jvm.exec) (hb : c.code = cc) {own : String} {index : Nat} {v : UInt32} (hown : s.vm.findClass own = some m.cls) (hconst : (Jvm.Cond.constantFloat own index v).before args s = true) (hdg : decode cc pc = .ok (.ldc_w index, 3)) (k : W p l e R s m args below meth c H locs cells slots Q (F0 m (pc + 3) ls (.float v :: rest))) : W p l e R s m args below meth c H locs cells slots Q (F0 m pc ls rest) := by
  intro T hT X
  obtain ⟨t, a, b⟩ := k T hT X
  obtain ⟨k, cf, hk, hcf, hcp⟩ := Cond.constantFloat_spec hown hconst
  obtain ⟨k', hk', he⟩ := X.warmed.alike.2.2 _ _ hk
  refine ⟨t, ?_, b⟩
  jvm_step X.here [X.here.top, hexec, hb, hdg, ldc_w.wp_float (s := T) (f := F0 m pc ls rest) X.here.top hk' (by rw [he]; exact hcf) hcp]
  exact a
end KTX
theorem xg_IOB : (∀ w ∈ Cond.classLink RX5 44 "java/lang/IndexOutOfBoundsException" :: Cond.initialized "java/lang/IndexOutOfBoundsException" :: vx_atS RX5 48 "java/lang/IndexOutOfBoundsException" ["java/lang/RuntimeException", "java/lang/Exception"], vx_ot w = true) ∧ (∀ w ∈ (vx_atS RX5 48 "java/lang/IndexOutOfBoundsException" ["java/lang/RuntimeException", "java/lang/Exception"]).filter (fun w => !goodWord w), w ∈ Cond.castable "java/lang/IndexOutOfBoundsException" "java/lang/IndexOutOfBoundsException" :: decX.map Cond.declares) := by decide +kernel
theorem xg_IAE : (∀ w ∈ Cond.classLink RX5 51 "java/lang/IllegalArgumentException" :: Cond.initialized "java/lang/IllegalArgumentException" :: vx_atS RX5 55 "java/lang/IllegalArgumentException" ["java/lang/RuntimeException", "java/lang/Exception"], vx_ot w = true) ∧ (∀ w ∈ (vx_atS RX5 55 "java/lang/IllegalArgumentException" ["java/lang/RuntimeException", "java/lang/Exception"]).filter (fun w => !goodWord w), w ∈ Cond.castable "java/lang/IllegalArgumentException" "java/lang/IllegalArgumentException" :: decX.map Cond.declares) := by decide +kernel
theorem xg_ISE : (∀ w ∈ Cond.classLink RX5 80 "java/lang/IllegalStateException" :: Cond.initialized "java/lang/IllegalStateException" :: vx_atS RX5 84 "java/lang/IllegalStateException" ["java/lang/RuntimeException", "java/lang/Exception"], vx_ot w = true) ∧ (∀ w ∈ (vx_atS RX5 84 "java/lang/IllegalStateException" ["java/lang/RuntimeException", "java/lang/Exception"]).filter (fun w => !goodWord w), w ∈ Cond.castable "java/lang/IllegalStateException" "java/lang/IllegalStateException" :: decX.map Cond.declares) := by decide +kernel

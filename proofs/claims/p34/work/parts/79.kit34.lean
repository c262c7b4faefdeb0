/-! p34: rows of numbers as lists, what the law's methods need, calls -/
def fnL (l : List Nat) : Nat → Int32 := fun j => nI (l.getD j 0)
theorem fnL_hi {l : List Nat} {j : Nat} (h : l.length ≤ j) : fnL l j = nI 0 := by
  unfold fnL
  rw [show l.getD j 0 = 0 from by simp [List.getD, List.getElem?_eq_none h]]
theorem fn_eq {g : Nat → Int32} {l : List Nat} (n : Nat) (hl : l.length = n) (h1 : ∀ j, j < n → g j = fnL l j) (h2 : ∀ j, n ≤ j → g j = nI 0) : g = fnL l := by
  funext j
  by_cases h : j < n
  · exact h1 j h
  · rw [h2 j (Nat.le_of_not_lt h), fnL_hi (by rw [hl]; exact Nat.le_of_not_lt h)]
/-- nothing stands behind the 97 numbers -/
def Hi (f : Nat → Int32) : Prop := ∀ j, 97 ≤ j → f j = nI 0
theorem hi_fn {l : List Nat} (h : l.length = 97) : Hi (fnL l) := fun j hj => fnL_hi (by rw [h]; exact hj)
theorem hi_u {f : Nat → Int32} {k : Nat} {v : Int32} (h : Hi f) (hk : k < 97) : Hi (upd f k v) := fun j hj => (pk_un (show j ≠ k by omega)).trans (h j hj)
theorem hi_pas {f : Nat → Int32} {v : Int32} (h : Hi f) : Hi (fPas f v) := fun j hj => (pas_o (by omega) (by omega)).trans (h j hj)
theorem hi_crs {f : Nat → Int32} (h : Hi f) : Hi (fCrs f) := by
  have h1 : Hi (fC1 f) := fun j hj => (c1_o (by omega) (by omega) (Or.inr (by omega))).trans (h j hj)
  exact hi_u (hi_u (hi_pas h1) (by decide)) (by decide)
theorem hi_drw {f : Nat → Int32} {n : Nat} (h : Hi f) : Hi (fDrw f n) := by
  have h1 : Hi (drW f n 20) := fun j hj => (drW_o (Or.inr (by omega))).trans (h j hj)
  exact hi_pas (hi_u (hi_u (hi_u h1 (by decide)) (by decide)) (by decide))
theorem hi_arr {f : Nat → Int32} {b : Nat} {w : Int32} (h : Hi f) (hb : b < 2) (hq : nn f (57 + 11 * b) < 10) : Hi (fArr f b w) :=
  hi_u (hi_u (hi_u h (show 57 + 11 * b + 1 + nn f (57 + 11 * b) < 97 by omega)) (show 57 + 11 * b < 97 by omega)) (by decide)
theorem hi_lod {f : Nat → Int32} {a : Nat} (h : Hi f) (ha : a < 2) (h5 : nn f 51 < 2) (hq : nn f (79 + 9 * a) < 4) : Hi (fLod f a) := by
  have h1 : Hi (fL1 f) := fun j hj => (l1_o (Or.inr (show 57 + 11 * nn f 51 + 10 < j by omega))).trans (h j hj)
  exact hi_u (hi_u (hi_u h1 (show 79 + 9 * a + 1 + 2 * nn f (79 + 9 * a) < 97 by omega)) (show 79 + 9 * a + 2 + 2 * nn f (79 + 9 * a) < 97 by omega)) (show 79 + 9 * a < 97 by omega)
theorem hi_unl {f : Nat → Int32} (h : Hi f) : Hi (fUnl f) := fun j hj => by
  unfold fUnl zrW
  rw [if_neg (show ¬ (79 ≤ j ∧ j < 97) by omega)]
  exact hi_u (hi_u h (by decide)) (by decide) j hj
theorem hi_fI : Hi fI := fun j hj => by
  unfold fI nwI
  rw [if_neg (by omega), if_neg (by omega), if_neg (by omega), if_neg (by omega), if_neg (by omega)]
/-- what stands below lo is as it was: the statics hold -/
def AL (lo : Nat) : Nat → Prop := fun q => lo ≤ q
def JB (lo : Nat) (U : State) (H : Heap) : Prop := lo ≤ H.size ∧ ∀ H' : Heap, (∀ a : Nat, a < lo → H'[a]? = H[a]?) → JX U H'
theorem JB.jx {lo : Nat} {U : State} {H : Heap} (h : JB lo U H) : JX U H := h.2 H (fun _ _ => rfl)
theorem JB.warm {lo : Nat} {s U : State} {H : Heap} (hW : s.WarmedH U.vm) (h : JB lo s H) : JB lo U H := ⟨h.1, fun H' e => JX.warm hW (h.2 H' e)⟩
theorem JB.calling {lo : Nat} {U : State} {H : Heap} {g : JFrame} {mk : MethodId} {a : Array Value} (h : JB lo U H) : JB lo (U.calling g mk a) H := ⟨h.1, fun H' e => JX.calling (h.2 H' e)⟩
theorem JB.kept {lo : Nat} {U : State} {H H1 : Heap} (h : JB lo U H) (hz : H.size ≤ H1.size) (hq : ∀ a : Nat, a < lo → H1[a]? = H[a]?) : JB lo U H1 := ⟨Nat.le_trans h.1 hz, fun H' e => h.2 H' (fun a ha => (e a ha).trans (hq a ha))⟩
theorem JB.of {s : State} {H : Heap} (h : JX s H) : JB H.size s H := ⟨Nat.le_refl _, fun H' e => h.kept e⟩
theorem JB.S {lo : Nat} {s : State} {A : Nat → Prop} {H : Heap} {locs : List Loc} (h : JB lo s s.heap) (hA : ∀ q, A q → lo ≤ q) (hS : va_S A s.heap H locs) : JB lo s H := h.kept hS.1 (fun a ha => hS.2.1 a (Nat.lt_of_lt_of_le ha h.1) (fun q => absurd (hA a q) (Nat.not_le.mpr ha)))
/-- a static method of the law over a ferry's cells -/
def PK (lo : Nat) (As : List Value) (G : eG) (I : Heap → Prop) : Array Value → State → Prop := fun v U => v = As.toArray ∧ EV G U ∧ JB lo U U.heap ∧ I U.heap
theorem PK.preS {lo : Nat} {As : List Value} {G : eG} {I : Heap → Prop} {s : State} {H : Heap} (hE : EV G s) (hJ : JB lo s H) (hI : I H) : PreS s H (PK lo As G I) As :=
  ⟨fun _ _ _ _ h => ⟨h.1, EV.calling h.2.1, JB.calling h.2.2.1, h.2.2.2⟩, fun U hU hW => ⟨rfl, EV.warm hW hE, by rw [hU]; exact JB.warm hW hJ, by rw [hU]; exact hI⟩⟩
theorem ofBK {l : Launch} {y : MethodName} {ws ws' : List Cond} {rm : Room} {Qc : Array Value → State → Outcome → State → Prop} {mc ms : Nat} {free : Addr → Prop} {cc : ByteArray} {maxL : Nat} {ret : Option FieldType} {lo : Nat} {As : List Value} {G : eG} {I : Heap → Prop}
    (hy : plainName y.cls = true) (hw : ws = Cond.code y cc maxL ret :: ws') (hn : (lg_sl As).length ≤ maxL)
    (body : ∀ (p : Program) (e : Env) (s : State) (m : MethodId) (below : List Frame) (meth : Method) (c : Code), p.tables.exec = Jvm.exec → c.code = cc → meth.sig.returnType = ret → meth.locks = false → c.maxLocals = maxL → s.vm.findClass y.cls = some m.cls → meth.name = y.name → (∀ w ∈ ws, w.before As.toArray s = true) → EV G s → JB lo s s.heap → I s.heap →
      ∀ ls : Array Slot, lv_has ls maxL (lv_args 0 As) → W p l e rm s m As.toArray below meth c s.heap [] 0 0 (MQ below Qc As.toArray s mc ms free) (F0 m 0 ls [])) : Met l y ws rm (PK lo As G I) Qc mc ms free := by
  refine Met.ofW hy hw ?_
  intro p e s m args below meth c s₁ B hml hv
  obtain ⟨rfl, hE, hJ, hI⟩ := hv
  have hl := lv_entry As (n := maxL) hn
  rw [lg_entry_eq]
  exact body p e s m below meth c B.exec B.bytes B.returns B.notSynchronized hml (findClass_of_methodNamed B.named) (name_of_methodNamed B.named B.method).1 (atoms_spec (ws := ws) B.pre) hE hJ hI _ hl
theorem ofBKW {l : Launch} {y : MethodName} {ws ws' : List Cond} {rm : Room} {Qc : Array Value → State → Outcome → State → Prop} {mc ms : Nat} {free : Addr → Prop} {cc : ByteArray} {maxL : Nat} {ret : Option FieldType} {hh : List (Nat × Nat × Nat × Nat)} {lo : Nat} {As : List Value} {G : eG} {I : Heap → Prop}
    (hy : plainName y.cls = true) (hw : ws = Cond.codeWith y cc maxL ret hh :: ws') (hn : (lg_sl As).length ≤ maxL)
    (body : ∀ (p : Program) (e : Env) (s : State) (m : MethodId) (below : List Frame) (meth : Method) (c : Code), p.tables.exec = Jvm.exec → c.code = cc → meth.sig.returnType = ret → meth.locks = false → c.maxLocals = maxL → s.vm.findClass y.cls = some m.cls → meth.name = y.name → (∀ w ∈ ws, w.before As.toArray s = true) → EV G s → JB lo s s.heap → I s.heap → c.exceptionTable.toList = tableOf hh →
      ∀ ls : Array Slot, lv_has ls maxL (lv_args 0 As) → W p l e rm s m As.toArray below meth c s.heap [] 0 0 (MQ below Qc As.toArray s mc ms free) (F0 m 0 ls [])) : Met l y ws rm (PK lo As G I) Qc mc ms free := by
  refine va_MetW hy hw ?_
  intro p e s m args below meth c s₁ B hml hv
  obtain ⟨rfl, hE, hJ, hI⟩ := hv
  have hl := lv_entry As (n := maxL) hn
  rw [lg_entry_eq]
  exact body p e s m below meth c B.exec B.bytes B.returns B.notSynchronized hml (findClass_of_methodNamed B.named) (name_of_methodNamed B.named B.method).1 (atoms_spec (ws := ws) B.pre) hE hJ hI (vx_table (x := y) B (atoms_spec (ws := ws) B.pre _ (by rw [hw]; exact List.mem_cons_self))) _ hl
/-- a static method of the law that makes its ferries itself -/
def PB (lo : Nat) (G : eG) (sz : Nat) : Array Value → State → Prop := fun v U => v = ([] : List Value).toArray ∧ EV G U ∧ JB lo U U.heap ∧ FX lo U U.heap ∧ U.heap.size = sz
theorem PB.preS {lo : Nat} {G : eG} {s : State} {H : Heap} (hE : EV G s) (hJ : JB lo s H) (hF : FX lo s H) : PreS s H (PB lo G H.size) [] :=
  ⟨fun _ _ _ _ h => ⟨h.1, EV.calling h.2.1, JB.calling h.2.2.1, FX.calling h.2.2.2.1, h.2.2.2.2⟩, fun U hU hW => ⟨rfl, EV.warm hW hE, by rw [hU]; exact JB.warm hW hJ, by rw [hU]; exact FX.warm hW hF, by rw [hU]⟩⟩
theorem ofBB {l : Launch} {y : MethodName} {ws ws' : List Cond} {rm : Room} {Qc : Array Value → State → Outcome → State → Prop} {mc ms : Nat} {free : Addr → Prop} {cc : ByteArray} {maxL : Nat} {ret : Option FieldType} {lo sz : Nat} {G : eG}
    (hy : plainName y.cls = true) (hw : ws = Cond.code y cc maxL ret :: ws')
    (body : ∀ (p : Program) (e : Env) (s : State) (m : MethodId) (below : List Frame) (meth : Method) (c : Code), p.tables.exec = Jvm.exec → c.code = cc → meth.sig.returnType = ret → meth.locks = false → c.maxLocals = maxL → s.vm.findClass y.cls = some m.cls → (∀ w ∈ ws, w.before ([] : List Value).toArray s = true) → EV G s → JB lo s s.heap → FX lo s s.heap → s.heap.size = sz →
      ∀ ls : Array Slot, lv_has ls maxL [] → W p l e rm s m ([] : List Value).toArray below meth c s.heap [] 0 0 (MQ below Qc ([] : List Value).toArray s mc ms free) (F0 m 0 ls [])) : Met l y ws rm (PB lo G sz) Qc mc ms free := by
  refine Met.ofW hy hw ?_
  intro p e s m args below meth c s₁ B hml hv
  obtain ⟨rfl, hE, hJ, hI, hsz⟩ := hv
  have hl := lv_entry ([] : List Value) (n := maxL) (Nat.zero_le _)
  rw [lg_entry_eq]
  exact body p e s m below meth c B.exec B.bytes B.returns B.notSynchronized hml (findClass_of_methodNamed B.named) (atoms_spec (ws := ws) B.pre) hE hJ hI hsz _ hl
/-- what a method of the law knows throughout -/
def LC (cc : ByteArray) (nL : Nat) (ws : List Cond) (p : Program) (s : State) (m : MethodId) (meth : Method) (c : Code) (args : Array Value) (G : eG) (lo : Nat) : Prop := p.tables.exec = Jvm.exec ∧ c.code = cc ∧ c.maxLocals = nL ∧ s.vm.findClass RL = some m.cls ∧ (∀ w ∈ ws, w.before args s = true) ∧ EV G s ∧ JB lo s s.heap ∧ FX lo s s.heap ∧ meth.sig.returnType = some .boolean ∧ meth.locks = false
def AA (s : State) : Nat → Prop := fun q => s.heap.size ≤ q
theorem AA_F {s t : State} (h : va_F (AA s) s t) : va_F noA s t := ⟨h.1, fun q h1 _ => h.2 q h1 (Nat.not_le.mpr h1)⟩
theorem lift0 {l : Launch} {y : MethodName} {ws : List Cond} {rm : Room} {lo : Nat} {As : List Value} {G : eG} {v : Option Value} {WC : va_W} {X : va_W → Prop} {mc ms : Nat} (h : Met l y ws rm (PK lo As G (fun H => va_P G.1 vwCl WC H ∧ va_D (AL lo) WC)) (MV v (fun _ => True) noA) mc ms noA) (hX : X WC) : Met l y ws rm (PK lo As G (fun H => va_P G.1 vwCl WC H ∧ va_D (AL lo) WC)) (MV v (fun H => ∃ W', X W' ∧ va_P G.1 vwCl W' H ∧ va_D (inW WC) W') (inW WC)) mc ms (inW WC) := by
  refine liftG h (fun _ _ q => q) (fun a st o t h9 hq => ?_) (fun q h => (h : False).elim)
  obtain ⟨-, -, -, hP, hD⟩ := h9
  obtain ⟨ho, -, hz, hk⟩ := hq
  exact ⟨ho, ⟨WC, hX, P_kept hP (fun a ha => hk a ha (fun q => q)), D_self hD⟩, hz, fun q h1 _ => hk q h1 (fun z => z)⟩
section KT34
variable {p : Program} {l : Launch} {e : Env} {R : Room} {s : State} {m : MethodId} {args : Array Value} {below : List Frame} {meth : Method} {c : Code} {H : Heap} {locs : List Loc} {cells slots : Nat} {Q : State → Prop}
variable {pc : Nat} {ls : Array Slot} {rest st0 st1 : List Value} {A : Nat → Prop} {G : eG} {WC r : va_W} {X : va_W → Prop} {lo : Nat} {arr : Array Value} {v : Option Value}
/-- a call over the ferry's cells, which stand ahead of others -/
theorem cxc {mc ms : Nat} (hr : va_Run p l e R s m args below meth c H locs cells slots mc ms (F0 m pc ls st0) rest (MV v (fun H => ∃ W', X W' ∧ va_P G.1 vwCl W' H ∧ va_D (inW WC) W') (inW WC) arr) (inW WC)) (hP : va_P G.1 vwCl (WC ++ r) H) (hD : va_D A (WC ++ r)) (hS : va_S A s.heap H locs) (hJ0 : JB lo s s.heap) (hAl : ∀ q, A q → lo ≤ q) (hst : v.toList ++ rest = st1)
    (kk : ∀ (WC : va_W) (H : Heap) (locs : List Loc), X WC → va_P G.1 vwCl (WC ++ r) H → va_D A (WC ++ r) → va_S A s.heap H locs → JB lo s H → W p l e R s m args below meth c H locs (cells + mc) (slots + ms) Q (F0 m (pc + 3) ls st1)) : W p l e R s m args below meth c H locs cells slots Q (F0 m pc ls st0) := by
  refine mcall hr hS (fun q _ h => inW_D (D_pre hD) q h) (fun q h => inW_D (D_pre hD) q h) hst (fun H1 locs1 hB hz hk hS => ?_)
  obtain ⟨W', hX, hP1, hD1⟩ := hB
  obtain ⟨hP2, hD2⟩ := jnF (w1 := W') hP hD hk hP1 hD1
  exact kk W' H1 locs1 hX hP2 hD2 hS (hJ0.S hAl hS)
theorem cx0 (hr : va_Run p l e R s m args below meth c H locs cells slots 0 0 (F0 m pc ls st0) rest (MV v (fun H => ∃ W', X W' ∧ va_P G.1 vwCl W' H ∧ va_D (inW WC) W') (inW WC) arr) (inW WC)) (hP : va_P G.1 vwCl (WC ++ r) H) (hD : va_D A (WC ++ r)) (hS : va_S A s.heap H locs) (hJ0 : JB lo s s.heap) (hAl : ∀ q, A q → lo ≤ q) (hst : v.toList ++ rest = st1)
    (kk : ∀ (WC : va_W) (H : Heap) (locs : List Loc), X WC → va_P G.1 vwCl (WC ++ r) H → va_D A (WC ++ r) → va_S A s.heap H locs → JB lo s H → W p l e R s m args below meth c H locs cells slots Q (F0 m (pc + 3) ls st1)) : W p l e R s m args below meth c H locs cells slots Q (F0 m pc ls st0) :=
  cxc hr hP hD hS hJ0 hAl hst kk
end KT34
theorem D_al {lo : Nat} {A : Nat → Prop} {w : va_W} (hA : ∀ q, A q → lo ≤ q) (h : va_D A w) : va_D (AL lo) w := D_iff.mpr ⟨(D_iff.mp h).1, fun q hq => hA _ ((D_iff.mp h).2 q hq)⟩
theorem D_tr {A : Nat → Prop} {w : va_W} (h : va_D A w) : va_D (fun _ => True) w := D_iff.mpr ⟨(D_iff.mp h).1, fun _ _ => trivial⟩

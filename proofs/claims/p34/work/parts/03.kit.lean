/-! helpers of this claim: contracts that read only (PQ) or change their own cells (MV), rows over plain numbers, cuts and loops -/
abbrev eG : Type := va_G × ClassId × ClassId
def nestL : List (String × Nat × MethodName) := [(RX3, 21, yX5_copyRow), (RX1, 25, yX5_copyRow), (RX4, 25, yX5_copyRow), (RX1, 29, yX5_at), (RX3, 96, yX5_at), (RX4, 29, yX5_at), (RX4, 49, yX5_put), (RX1, 37, yX5_put), (RX2, 25, yX5_at), (RX2, 29, yX5_put), (RX2, 41, yX5_isWithin)]
/-- what every method knows of the tables: the classes, the two kinds of arrays, the nest's words -/
def EV (G : eG) (U : State) : Prop := va_K G.1 vwCl [(G.2.1, .int), (G.2.2, .object "CableFerry$State")] U ∧ ∀ q ∈ nestL, va_Nw (.methodLinkNest q.1 q.2.1 q.2.2 RX5) U
theorem EV.warm {G : eG} {s U : State} (hW : s.WarmedH U.vm) (h : EV G s) : EV G U := ⟨va_K.moved hW.alike h.1, fun q hq => va_Nw.warmM hW (h.2 q hq)⟩
theorem EV.calling {G : eG} {U : State} {g : JFrame} {mk : MethodId} {a : Array Value} (h : EV G U) : EV G (U.calling g mk a) :=
  ⟨va_K.moved (u := U) (U := U.calling g mk a) (Vm.Alike.refl U.vm) h.1, fun q hq => va_Nw.same rfl rfl (h.2 q hq)⟩
def PC (As : List Value) (G : eG) (I : Heap → Prop) : Array Value → State → Prop := fun v U => v = As.toArray ∧ EV G U ∧ I U.heap
theorem PC.blind {As : List Value} {G : eG} {I : Heap → Prop} : FrameBlind (PC As G I) := fun _ _ _ _ h => ⟨h.1, EV.calling h.2.1, h.2.2⟩
theorem PC.preS {As : List Value} {G : eG} {I : Heap → Prop} {s : State} {H : Heap} (hE : EV G s) (hI : I H) : PreS s H (PC As G I) As := ⟨PC.blind, fun U hU hW => ⟨rfl, EV.warm hW hE, by rw [hU]; exact hI⟩⟩
theorem PC.preV {As : List Value} {b : Nat} {C : String} {G : eG} {I : Heap → Prop} {s : State} {H : Heap} (hE : EV G s) (hr : ∃ cell : Cell, H[b]? = some cell ∧ cell.vm.isStatics = false ∧ s.vm.findClass C = some cell.cls) (hI : I H) : PreV s H C b (PC (.ref b :: As) G I) As := ⟨PC.blind, hr, fun U hU hW => ⟨rfl, EV.warm hW hE, by rw [hU]; exact hI⟩⟩
/-- nothing is changed, the answer is v -/
def PQ (v : Option Value) : Array Value → State → Outcome → State → Prop := fun _ st oc t => oc = .returned v ∧ t.heap = st.heap
/-- the answer is v, the heap holds B, what isn't of A stays -/
def MV (v : Option Value) (B : Heap → Prop) (A : Nat → Prop) : Array Value → State → Outcome → State → Prop := fun _ st oc t => oc = .returned v ∧ B t.heap ∧ va_F A st t
def inW (ws : va_W) : Nat → Prop := fun q => ∃ (k : Nat) (e : va_E), ws[k]? = some (q, e)
def noA : Addr → Prop := fun _ => False
theorem inW_D {A : Nat → Prop} {ws : va_W} (h : va_D A ws) : ∀ q, inW ws q → A q := fun q hq => by
  obtain ⟨k, e, h1⟩ := hq
  exact h.2 k (q, e) h1
theorem D_self {A : Nat → Prop} {ws : va_W} (h : va_D A ws) : va_D (inW ws) ws := ⟨h.1, fun k q hk => ⟨k, q.2, hk⟩⟩
theorem jnW {A0 : Nat → Prop} {D : va_G} {cl : List vw_C} {ws wc wr w1 : va_W} {H H1 : Heap} (hP : va_P D cl ws H) (hD : va_D A0 ws) (isC isR : List Nat) (hC : isC.map (fun i => ws[i]?) = wc.map some) (hR : isR.map (fun i => ws[i]?) = wr.map some) (hn : va_nd isR = true) (hdis : ∀ i ∈ isR, i ∉ isC)
    (hk : ∀ q : Nat, q < H.size → ¬ inW wc q → H1[q]? = H[q]?) (hP1 : va_P D cl w1 H1) (hD1 : va_D (inW wc) w1) : va_P D cl (wr ++ w1) H1 ∧ va_D A0 (wr ++ w1) := by
  have at' : ∀ {is : List Nat} {w : va_W}, is.map (fun i => ws[i]?) = w.map some → ∀ (k : Nat) (q : Nat × va_E), w[k]? = some q → ∃ i, is[k]? = some i ∧ ws[i]? = some q := by
    intro is w hs k q hq
    have h1 : (is.map (fun i => ws[i]?))[k]? = some (some q) := by rw [hs, List.getElem?_map, hq]; rfl
    rw [List.getElem?_map] at h1
    cases hi : is[k]? with
    | none => rw [hi] at h1; cases h1
    | some i => rw [hi] at h1; exact ⟨i, rfl, Option.some.inj h1⟩
  have apart : ∀ (k : Nat) (q : Nat × va_E), wr[k]? = some q → q.1 < H.size ∧ ¬ inW wc q.1 := by
    intro k q hq
    obtain ⟨i, h1, h2⟩ := at' hR k q hq
    refine ⟨(hP i q h2).lt, fun h => ?_⟩
    obtain ⟨k2, e, h⟩ := h
    obtain ⟨j, h3, h4⟩ := at' hC k2 (q.1, e) h
    have hij := hD.1 i j q (q.1, e) h2 h4 rfl
    subst hij
    exact hdis i (List.mem_of_getElem? h1) (List.mem_of_getElem? h3)
  have hF : ∀ q, inW wc q → A0 q := by
    intro q hq
    obtain ⟨k, e, h⟩ := hq
    obtain ⟨j, h3, h4⟩ := at' hC k (q, e) h
    exact hD.2 j (q, e) h4
  refine ⟨va_P.app (fun k q hq => ?_) hP1, va_D.app (hD.sub isR hn hR) (hD1.weaken (fun k q _ h => hF q.1 h)) (fun i j x y hx hy hxy => ?_)⟩
  · obtain ⟨i, h1, h2⟩ := at' hR k q hq
    obtain ⟨g1, g2⟩ := apart k q hq
    exact (hP i q h2).kept (hk q.1 g1 g2)
  · exact (apart i x hx).2 (by rw [hxy]; exact hD1.2 j y hy)
section KTA
variable {p : Program} {l : Launch} {e : Env} {R : Room} {s : State} {m : MethodId} {args : Array Value} {below : List Frame} {meth : Method} {c : Code} {H : Heap} {locs : List Loc} {cells slots : Nat} {Q : State → Prop}
variable {cc : ByteArray} {pc : Nat} {ls : Array Slot} {rest st0 : List Value} {D : va_G} {cl : List vw_C} {A A0 A1 : Nat → Prop} {H0 : Heap} {a : Nat} {tys : List (ClassId × FieldType)} {ws : va_W} {arr : Array Value} {free : Addr → Prop}
theorem tI {x y : Int32} (h : x = y) (k : W p l e R s m args below meth c H locs cells slots Q (F0 m pc ls (.int y :: rest))) : W p l e R s m args below meth c H locs cells slots Q (F0 m pc ls (.int x :: rest)) := h ▸ k
theorem tS {st st' : List Value} (h : st = st') (k : W p l e R s m args below meth c H locs cells slots Q (F0 m pc ls st')) : W p l e R s m args below meth c H locs cells slots Q (F0 m pc ls st) := h ▸ k
theorem iaddN (hx : p.tables.exec = Jvm.exec) (hb : c.code = cc) {x y : Nat} (hdg : decode cc pc = .ok (.iadd, 1)) (k : W p l e R s m args below meth c H locs cells slots Q (F0 m (pc + 1) ls (.int (nI (x + y)) :: rest))) : W p l e R s m args below meth c H locs cells slots Q (F0 m pc ls (.int (nI y) :: .int (nI x) :: rest)) :=
  lv_iadd hx hb hdg (by rw [nI_add]; exact k)
theorem imulN (hx : p.tables.exec = Jvm.exec) (hb : c.code = cc) {x y : Nat} (hdg : decode cc pc = .ok (.imul, 1)) (k : W p l e R s m args below meth c H locs cells slots Q (F0 m (pc + 1) ls (.int (nI (x * y)) :: rest))) : W p l e R s m args below meth c H locs cells slots Q (F0 m pc ls (.int (nI y) :: .int (nI x) :: rest)) :=
  lv_imul hx hb hdg (by rw [pk_mul]; exact k)
theorem isubN (hx : p.tables.exec = Jvm.exec) (hb : c.code = cc) {x y : Nat} (h : y ≤ x) (hdg : decode cc pc = .ok (.isub, 1)) (k : W p l e R s m args below meth c H locs cells slots Q (F0 m (pc + 1) ls (.int (nI (x - y)) :: rest))) : W p l e R s m args below meth c H locs cells slots Q (F0 m pc ls (.int (nI y) :: .int (nI x) :: rest)) :=
  lv_isub hx hb hdg (by rw [pk_sub h]; exact k)
theorem nI_nz {y : Nat} (h0 : 0 < y) (hy : y < 2147483648) : ¬ nI y = 0 := nI_ne0 h0 hy
theorem idivN (hx : p.tables.exec = Jvm.exec) (hb : c.code = cc) {x y : Nat} (h1 : x < 2147483648) (h0 : 0 < y) (hy : y < 2147483648) (hdg : decode cc pc = .ok (.idiv, 1)) (k : W p l e R s m args below meth c H locs cells slots Q (F0 m (pc + 1) ls (.int (nI (x / y)) :: rest))) : W p l e R s m args below meth c H locs cells slots Q (F0 m pc ls (.int (nI y) :: .int (nI x) :: rest)) :=
  lv_idiv hx hb hdg (nI_nz h0 hy) (by rw [pk_div h1 h0 hy]; exact k)
theorem iremN (hx : p.tables.exec = Jvm.exec) (hb : c.code = cc) {x y : Nat} (h1 : x < 2147483648) (h0 : 0 < y) (hy : y < 2147483648) (hdg : decode cc pc = .ok (.irem, 1)) (k : W p l e R s m args below meth c H locs cells slots Q (F0 m (pc + 1) ls (.int (nI (x % y)) :: rest))) : W p l e R s m args below meth c H locs cells slots Q (F0 m pc ls (.int (nI y) :: .int (nI x) :: rest)) :=
  lv_irem hx hb hdg (nI_nz h0 hy) (by rw [pk_rem h1 h0 hy]; exact k)
theorem ialdN (hx : p.tables.exec = Jvm.exec) (hb : c.code = cc) (hK : va_K D cl tys s) (hP : va_P D cl ws H) (q0 t0 : Nat) {cA : ClassId} {n : Nat} {f : Nat → Int32} (ha : ws[q0]? = some (a, .inl (cA, n, .inl f))) (ht : tys[t0]? = some (cA, .int)) {k : Nat} (hk : k < n) (hn : n < 2147483648) (hdg : decode cc pc = .ok (.iaload, 1))
    (kk : W p l e R s m args below meth c H locs cells slots Q (F0 m (pc + 1) ls (.int (f k) :: rest))) : W p l e R s m args below meth c H locs cells slots Q (F0 m pc ls (.int (nI k) :: .ref a :: rest)) :=
  va_iald hx hb hK hP q0 t0 ha ht (vp_in_nI hk hn) hdg (by rw [nI_clamp (by omega)]; exact kk)
theorem iastN (hx : p.tables.exec = Jvm.exec) (hb : c.code = cc) (hK : va_K D cl tys s) (hP : va_P D cl ws H) (hD : va_D A ws) (hS : va_S A H0 H locs) (q0 t0 : Nat) {cA : ClassId} {n : Nat} {f : Nat → Int32} (ha : ws[q0]? = some (a, .inl (cA, n, .inl f))) (ht : tys[t0]? = some (cA, .int)) {k : Nat} {x : Int32} (hk : k < n) (hn : n < 2147483648) (hdg : decode cc pc = .ok (.iastore, 1))
    (kk : ∀ (H1 : Heap) (locs1 : List Loc), va_P D cl (ws.set q0 (a, .inl (cA, n, .inl (upd f k x)))) H1 → va_D A (ws.set q0 (a, .inl (cA, n, .inl (upd f k x)))) → va_S A H0 H1 locs1 → W p l e R s m args below meth c H1 locs1 cells slots Q (F0 m (pc + 1) ls rest)) : W p l e R s m args below meth c H locs cells slots Q (F0 m pc ls (.int x :: .int (nI k) :: .ref a :: rest)) :=
  va_iast hx hb hK hP hD hS q0 t0 ha ht (vp_in_nI hk hn) hdg (by rw [nI_clamp (by omega)]; exact kk)
/-- a call that changes nothing -/
theorem pcall {v : Option Value} {st1 : List Value} (hr : va_Run p l e R s m args below meth c H locs cells slots 0 0 (F0 m pc ls st0) rest (PQ v arr) noA) (hst : v.toList ++ rest = st1)
    (kk : W p l e R s m args below meth c H locs cells slots Q (F0 m (pc + 3) ls st1)) : W p l e R s m args below meth c H locs cells slots Q (F0 m pc ls st0) := by
  subst hst
  intro T hT X
  obtain ⟨v1, st₀, t, T', L, h0, X', hL, e1, e2, ⟨hv, hh⟩, st⟩ := hr T hT X
  cases hv
  have hL0 : L = [] := by
    cases L with
    | nil => rfl
    | cons q L => exact (hL q List.mem_cons_self).elim
  subst hL0
  rw [List.append_nil] at X'
  obtain ⟨t2, a1, b1⟩ := kk T' (by rw [e1, hh, h0]) X'
  exact ⟨t2, st t2 a1, b1⟩
/-- a call that changes its own cells -/
theorem mcall {v : Option Value} {B : Heap → Prop} {mc ms : Nat} {st1 : List Value} (hr : va_Run p l e R s m args below meth c H locs cells slots mc ms (F0 m pc ls st0) rest (MV v B A1 arr) free) (hS : va_S A0 H0 H locs) (hA : ∀ q, q < H.size → A1 q → A0 q) (hf : ∀ q, free q → A0 q) (hst : v.toList ++ rest = st1)
    (kk : ∀ (H1 : Heap) (locs1 : List Loc), B H1 → H.size ≤ H1.size → (∀ q : Nat, q < H.size → ¬ A1 q → H1[q]? = H[q]?) → va_S A0 H0 H1 locs1 → W p l e R s m args below meth c H1 locs1 (cells + mc) (slots + ms) Q (F0 m (pc + 3) ls st1)) : W p l e R s m args below meth c H locs cells slots Q (F0 m pc ls st0) := by
  subst hst
  intro T hT X
  obtain ⟨v1, st₀, t, T', L, h0, X', hL, e1, e2, ⟨hv, hb, hz, hk⟩, st⟩ := hr T hT X
  cases hv
  rw [h0] at hz hk
  obtain ⟨t2, a1, b1⟩ := kk T'.heap (locs ++ L) (by rw [e1]; exact hb) (by rw [e1]; exact hz) (fun q h1 h2 => by rw [e1]; exact hk q h1 h2)
    ⟨Nat.le_trans hS.1 (by rw [e1]; exact hz), fun q h1 h2 => by rw [e1, hk q (Nat.lt_of_lt_of_le h1 hS.1) (fun z => h2 (hA q (Nat.lt_of_lt_of_le h1 hS.1) z))]; exact hS.2.1 q h1 h2, fun q hq => by
      rcases List.mem_append.mp hq with h | h
      · exact hS.2.2 q h
      · exact hf _ (hL q h)⟩ T' rfl X'
  exact ⟨t2, st t2 a1, b1⟩
/-- a point that several ways reach -/
theorem cutL {σ : Type} {n pc1 : Nat} (I : σ → Prop) (lv : σ → List (Nat × Value)) (st : σ → List Value) {g : JFrame} (k : ∀ (x : σ) (ls : Array Slot), I x → lv_has ls n (lv x) → W p l e R s m args below meth c H locs cells slots Q (F0 m pc1 ls (st x)))
    (h : (∀ (x : σ) (ls : Array Slot), I x → lv_has ls n (lv x) → W p l e R s m args below meth c H locs cells slots Q (F0 m pc1 ls (st x))) → W p l e R s m args below meth c H locs cells slots Q g) : W p l e R s m args below meth c H locs cells slots Q g := h k
theorem cutH {σ : Type} {n pc1 : Nat} (I : σ → Prop) (B : σ → Heap → List Loc → Prop) (lv : σ → List (Nat × Value)) (st : σ → List Value) {g : JFrame} (k : ∀ (x : σ) (H : Heap) (locs : List Loc) (ls : Array Slot), I x → B x H locs → lv_has ls n (lv x) → W p l e R s m args below meth c H locs cells slots Q (F0 m pc1 ls (st x)))
    (h : (∀ (x : σ) (H : Heap) (locs : List Loc) (ls : Array Slot), I x → B x H locs → lv_has ls n (lv x) → W p l e R s m args below meth c H locs cells slots Q (F0 m pc1 ls (st x))) → W p l e R s m args below meth c H locs cells slots Q g) : W p l e R s m args below meth c H locs cells slots Q g := h k
theorem loopL {σ : Type} {n pc1 : Nat} (μ : σ → Nat) (I : σ → Prop) (lv : σ → List (Nat × Value)) (st : σ → List Value) (k : ∀ (x : σ) (ls : Array Slot), I x → lv_has ls n (lv x) → (∀ (y : σ) (ls' : Array Slot), I y → lv_has ls' n (lv y) → μ y < μ x → W p l e R s m args below meth c H locs cells slots Q (F0 m pc1 ls' (st y))) → W p l e R s m args below meth c H locs cells slots Q (F0 m pc1 ls (st x))) :
    ∀ (x : σ) (ls : Array Slot), I x → lv_has ls n (lv x) → W p l e R s m args below meth c H locs cells slots Q (F0 m pc1 ls (st x)) := by
  have key : ∀ (N : Nat) (x : σ), μ x < N → ∀ (ls : Array Slot), I x → lv_has ls n (lv x) → W p l e R s m args below meth c H locs cells slots Q (F0 m pc1 ls (st x)) := by
    intro N
    induction N with
    | zero => intro x hx; exact absurd hx (Nat.not_lt_zero _)
    | succ N ih => intro x hx ls hI hl; exact k x ls hI hl (fun y ls' hI' hl' hm => ih y (by omega) ls' hI' hl')
  exact fun x ls hI hl => key (μ x + 1) x (Nat.lt_succ_self _) ls hI hl
theorem loopH {σ : Type} {n pc1 : Nat} (μ : σ → Nat) (I : σ → Prop) (B : σ → Heap → List Loc → Prop) (lv : σ → List (Nat × Value)) (st : σ → List Value) (k : ∀ (x : σ) (H : Heap) (locs : List Loc) (ls : Array Slot), I x → B x H locs → lv_has ls n (lv x) → (∀ (y : σ) (H : Heap) (locs : List Loc) (ls' : Array Slot), I y → B y H locs → lv_has ls' n (lv y) → μ y < μ x → W p l e R s m args below meth c H locs cells slots Q (F0 m pc1 ls' (st y))) → W p l e R s m args below meth c H locs cells slots Q (F0 m pc1 ls (st x))) :
    ∀ (x : σ) (H : Heap) (locs : List Loc) (ls : Array Slot), I x → B x H locs → lv_has ls n (lv x) → W p l e R s m args below meth c H locs cells slots Q (F0 m pc1 ls (st x)) := by
  have key : ∀ (N : Nat) (x : σ), μ x < N → ∀ (H : Heap) (locs : List Loc) (ls : Array Slot), I x → B x H locs → lv_has ls n (lv x) → W p l e R s m args below meth c H locs cells slots Q (F0 m pc1 ls (st x)) := by
    intro N
    induction N with
    | zero => intro x hx; exact absurd hx (Nat.not_lt_zero _)
    | succ N ih => intro x hx H locs ls hI hB hl; exact k x H locs ls hI hB hl (fun y H' locs' ls' hI' hB' hl' hm => ih y (by omega) H' locs' ls' hI' hB' hl')
  exact fun x H locs ls hI hB hl => key (μ x + 1) x (Nat.lt_succ_self _) H locs ls hI hB hl
end KTA
/-- from the entry of a method with a contract of PC's form -/
theorem ofB {l : Launch} {y : MethodName} {ws ws' : List Cond} {rm : Room} {Qc : Array Value → State → Outcome → State → Prop} {mc ms : Nat} {free : Addr → Prop} {cc : ByteArray} {maxL : Nat} {ret : Option FieldType} {As : List Value} {G : eG} {I : Heap → Prop}
    (hy : plainName y.cls = true) (hw : ws = Cond.code y cc maxL ret :: ws') (hn : (lg_sl As).length ≤ maxL)
    (body : ∀ (p : Program) (e : Env) (s : State) (m : MethodId) (below : List Frame) (meth : Method) (c : Code), p.tables.exec = Jvm.exec → c.code = cc → meth.sig.returnType = ret → meth.locks = false → c.maxLocals = maxL → s.vm.findClass y.cls = some m.cls → meth.name = y.name → (∀ w ∈ ws, w.before As.toArray s = true) → EV G s → I s.heap →
      ∀ ls : Array Slot, lv_has ls maxL (lv_args 0 As) → W p l e rm s m As.toArray below meth c s.heap [] 0 0 (MQ below Qc As.toArray s mc ms free) (F0 m 0 ls [])) : Met l y ws rm (PC As G I) Qc mc ms free := by
  refine Met.ofW hy hw ?_
  intro p e s m args below meth c s₁ B hml hv
  obtain ⟨rfl, hE, hI⟩ := hv
  have hl := lv_entry As (n := maxL) hn
  rw [lg_entry_eq]
  exact body p e s m below meth c B.exec B.bytes B.returns B.notSynchronized hml (findClass_of_methodNamed B.named) (name_of_methodNamed B.named B.method).1 (atoms_spec (ws := ws) B.pre) hE hI _ hl
/-- 1 for a truth, else 0 -/
def b2 (P : Prop) [Decidable P] : Int32 := if P then nI 1 else nI 0
theorem b2_t {P : Prop} [Decidable P] (h : P) : b2 P = nI 1 := if_pos h
theorem b2_f {P : Prop} [Decidable P] (h : ¬ P) : b2 P = nI 0 := if_neg h
theorem b2_1 {P : Prop} [Decidable P] : ¬ b2 P = 0 ↔ P := by
  unfold b2
  by_cases h : P <;> simp [h] <;> decide
theorem b2_0 {P : Prop} [Decidable P] : b2 P = 0 ↔ ¬ P := by
  unfold b2
  by_cases h : P <;> simp [h] <;> decide
theorem b2_z (P : Prop) [Decidable P] : narrow .boolean (.int (b2 P)) = .int (b2 P) := by
  unfold b2
  by_cases h : P <;> simp only [h, if_true, if_false] <;> rfl
theorem b2_c {P P' : Prop} [Decidable P] [Decidable P'] (h : P ↔ P') : b2 P = b2 P' := by
  unfold b2
  by_cases h1 : P <;> simp [h1, h.mp, ← h]
theorem nI_inc1 (x : Nat) : nI x + Int32.ofInt 1 = nI (x + 1) := by
  rw [show Int32.ofInt 1 = nI 1 from by decide +kernel, nI_add]
theorem nI_inc4 (x : Nat) : nI x + Int32.ofInt 4 = nI (x + 4) := by
  rw [show Int32.ofInt 4 = nI 4 from by decide +kernel, nI_add]
section KTB
variable {p : Program} {l : Launch} {e : Env} {R : Room} {s : State} {m : MethodId} {args : Array Value} {below : List Frame} {meth : Method} {c : Code} {H : Heap} {locs : List Loc} {cells slots : Nat} {Q : State → Prop}
variable {cc : ByteArray} {pc : Nat} {ls : Array Slot} {rest : List Value} {off : Int} {tgt x y : Nat}
theorem tH {H' : Heap} {g : JFrame} (h : H = H') (k : W p l e R s m args below meth c H locs cells slots Q g) : W p l e R s m args below meth c H' locs cells slots Q g := h ▸ k
theorem icmp_geN (hx : p.tables.exec = Jvm.exec) (hb : c.code = cc) (h1 : x < 2147483648) (h2 : y < 2147483648) (hdg : decode cc pc = .ok (.if_icmp .ge off, 3)) (ht : (pc : Int) + off = (tgt : Int)) (kt : y ≤ x → W p l e R s m args below meth c H locs cells slots Q (F0 m tgt ls rest)) (kf : x < y → W p l e R s m args below meth c H locs cells slots Q (F0 m (pc + 3) ls rest)) : W p l e R s m args below meth c H locs cells slots Q (F0 m pc ls (.int (nI y) :: .int (nI x) :: rest)) :=
  lv_icmp_ge hx hb hdg ht (fun h => kt ((nI_leI h2 h1).mp h)) (fun h => kf (Nat.lt_of_not_le fun q => h ((nI_leI h2 h1).mpr q)))
theorem icmp_ltN (hx : p.tables.exec = Jvm.exec) (hb : c.code = cc) (h1 : x < 2147483648) (h2 : y < 2147483648) (hdg : decode cc pc = .ok (.if_icmp .lt off, 3)) (ht : (pc : Int) + off = (tgt : Int)) (kt : x < y → W p l e R s m args below meth c H locs cells slots Q (F0 m tgt ls rest)) (kf : y ≤ x → W p l e R s m args below meth c H locs cells slots Q (F0 m (pc + 3) ls rest)) : W p l e R s m args below meth c H locs cells slots Q (F0 m pc ls (.int (nI y) :: .int (nI x) :: rest)) :=
  lv_icmp_lt hx hb hdg ht (fun h => kt ((nI_ltI h1 h2).mp h)) (fun h => kf (Nat.le_of_not_lt fun q => h ((nI_ltI h1 h2).mpr q)))
theorem icmp_gtN (hx : p.tables.exec = Jvm.exec) (hb : c.code = cc) (h1 : x < 2147483648) (h2 : y < 2147483648) (hdg : decode cc pc = .ok (.if_icmp .gt off, 3)) (ht : (pc : Int) + off = (tgt : Int)) (kt : y < x → W p l e R s m args below meth c H locs cells slots Q (F0 m tgt ls rest)) (kf : x ≤ y → W p l e R s m args below meth c H locs cells slots Q (F0 m (pc + 3) ls rest)) : W p l e R s m args below meth c H locs cells slots Q (F0 m pc ls (.int (nI y) :: .int (nI x) :: rest)) :=
  lv_icmp_gt hx hb hdg ht (fun h => kt ((nI_ltI h2 h1).mp h)) (fun h => kf (Nat.le_of_not_lt fun q => h ((nI_ltI h2 h1).mpr q)))
theorem icmp_leN (hx : p.tables.exec = Jvm.exec) (hb : c.code = cc) (h1 : x < 2147483648) (h2 : y < 2147483648) (hdg : decode cc pc = .ok (.if_icmp .le off, 3)) (ht : (pc : Int) + off = (tgt : Int)) (kt : x ≤ y → W p l e R s m args below meth c H locs cells slots Q (F0 m tgt ls rest)) (kf : y < x → W p l e R s m args below meth c H locs cells slots Q (F0 m (pc + 3) ls rest)) : W p l e R s m args below meth c H locs cells slots Q (F0 m pc ls (.int (nI y) :: .int (nI x) :: rest)) :=
  lv_icmp_le hx hb hdg ht (fun h => kt ((nI_leI h1 h2).mp h)) (fun h => kf (Nat.lt_of_not_le fun q => h ((nI_leI h1 h2).mpr q)))
theorem icmp_eqN (hx : p.tables.exec = Jvm.exec) (hb : c.code = cc) (h1 : x < 2147483648) (h2 : y < 2147483648) (hdg : decode cc pc = .ok (.if_icmp .eq off, 3)) (ht : (pc : Int) + off = (tgt : Int)) (kt : x = y → W p l e R s m args below meth c H locs cells slots Q (F0 m tgt ls rest)) (kf : ¬ x = y → W p l e R s m args below meth c H locs cells slots Q (F0 m (pc + 3) ls rest)) : W p l e R s m args below meth c H locs cells slots Q (F0 m pc ls (.int (nI y) :: .int (nI x) :: rest)) :=
  lv_icmp_eq hx hb hdg ht (fun h => kt ((nI_eq h1 h2).mp h)) (fun h => kf fun q => h ((nI_eq h1 h2).mpr q))
theorem icmp_neN (hx : p.tables.exec = Jvm.exec) (hb : c.code = cc) (h1 : x < 2147483648) (h2 : y < 2147483648) (hdg : decode cc pc = .ok (.if_icmp .ne off, 3)) (ht : (pc : Int) + off = (tgt : Int)) (kt : ¬ x = y → W p l e R s m args below meth c H locs cells slots Q (F0 m tgt ls rest)) (kf : x = y → W p l e R s m args below meth c H locs cells slots Q (F0 m (pc + 3) ls rest)) : W p l e R s m args below meth c H locs cells slots Q (F0 m pc ls (.int (nI y) :: .int (nI x) :: rest)) :=
  lv_icmp_ne hx hb hdg ht (fun h => kt fun q => h ((nI_eq h1 h2).mpr q)) (fun h => kf ((nI_eq h1 h2).mp h))
end KTB
theorem P_nil {D : va_G} {cl : List vw_C} {H : Heap} : va_P D cl [] H := fun k q h => by simp at h
section KTC
variable {p : Program} {l : Launch} {e : Env} {R : Room} {s : State} {m : MethodId} {args : Array Value} {below : List Frame} {meth : Method} {c : Code} {H : Heap} {locs : List Loc} {cells slots : Nat} {Q : State → Prop}
variable {cc : ByteArray} {pc : Nat} {ls : Array Slot} {rest : List Value} {off : Int} {tgt x : Nat}
theorem if_leN (hx : p.tables.exec = Jvm.exec) (hb : c.code = cc) (h1 : x < 2147483648) (hdg : decode cc pc = .ok (.ifCond .le off, 3)) (ht : (pc : Int) + off = (tgt : Int)) (kt : x = 0 → W p l e R s m args below meth c H locs cells slots Q (F0 m tgt ls rest)) (kf : 0 < x → W p l e R s m args below meth c H locs cells slots Q (F0 m (pc + 3) ls rest)) : W p l e R s m args below meth c H locs cells slots Q (F0 m pc ls (.int (nI x) :: rest)) :=
  lv_if_le hx hb hdg ht (fun h => kt (Nat.eq_zero_of_not_pos fun q => nI_nle q h1 h)) (fun h => kf (Nat.pos_of_ne_zero fun q => h (by rw [q]; decide +kernel)))
theorem if_gtN (hx : p.tables.exec = Jvm.exec) (hb : c.code = cc) (h1 : x < 2147483648) (hdg : decode cc pc = .ok (.ifCond .gt off, 3)) (ht : (pc : Int) + off = (tgt : Int)) (kt : 0 < x → W p l e R s m args below meth c H locs cells slots Q (F0 m tgt ls rest)) (kf : x = 0 → W p l e R s m args below meth c H locs cells slots Q (F0 m (pc + 3) ls rest)) : W p l e R s m args below meth c H locs cells slots Q (F0 m pc ls (.int (nI x) :: rest)) :=
  lv_if_gt hx hb hdg ht (fun h => kt (Nat.pos_of_ne_zero fun q => absurd h (by rw [q]; decide +kernel))) (fun h => kf (Nat.eq_zero_of_not_pos fun q => h (Int32.not_le.mp (nI_nle q h1))))
theorem if_eqN (hx : p.tables.exec = Jvm.exec) (hb : c.code = cc) (h1 : x < 2147483648) (hdg : decode cc pc = .ok (.ifCond .eq off, 3)) (ht : (pc : Int) + off = (tgt : Int)) (kt : x = 0 → W p l e R s m args below meth c H locs cells slots Q (F0 m tgt ls rest)) (kf : ¬ x = 0 → W p l e R s m args below meth c H locs cells slots Q (F0 m (pc + 3) ls rest)) : W p l e R s m args below meth c H locs cells slots Q (F0 m pc ls (.int (nI x) :: rest)) :=
  lv_if_eq hx hb hdg ht (fun h => kt (Nat.eq_zero_of_not_pos fun q => nI_ne0 q h1 h)) (fun h => kf (fun q => h (by rw [q]; decide +kernel)))
theorem if_neN (hx : p.tables.exec = Jvm.exec) (hb : c.code = cc) (h1 : x < 2147483648) (hdg : decode cc pc = .ok (.ifCond .ne off, 3)) (ht : (pc : Int) + off = (tgt : Int)) (kt : ¬ x = 0 → W p l e R s m args below meth c H locs cells slots Q (F0 m tgt ls rest)) (kf : x = 0 → W p l e R s m args below meth c H locs cells slots Q (F0 m (pc + 3) ls rest)) : W p l e R s m args below meth c H locs cells slots Q (F0 m pc ls (.int (nI x) :: rest)) :=
  lv_if_ne hx hb hdg ht (fun h => kt (fun q => h (by rw [q]; decide +kernel))) (fun h => kf (Nat.eq_zero_of_not_pos fun q => nI_ne0 q h1 h))
end KTC
theorem cell_ext {cA : ClassId} {n : Nat} {f g : Nat → Int32} (h : ∀ j, j < n → f j = g j) : vp_cell cA (n, .inl f) = vp_cell cA (n, .inl g) := by
  rw [vp_cell_i, vp_cell_i]
  unfold arrV
  congr 1
  congr 1
  funext j
  exact congrArg Value.int (h j.val j.isLt)
theorem P_ext {D : va_G} {cl : List vw_C} {ws ws' : va_W} {H : Heap} {a n : Nat} {cA : ClassId} {f g : Nat → Int32} (q : Nat) (h0 : ws[q]? = some (a, .inl (cA, n, .inl f))) (hw : ws.set q (a, .inl (cA, n, .inl g)) = ws') (h : ∀ j, j < n → f j = g j) (hP : va_P D cl ws H) : va_P D cl ws' H := by
  subst hw
  have hl := (List.getElem?_eq_some_iff.mp h0).1
  intro k r hk
  by_cases hkq : k = q
  · subst hkq
    rw [List.getElem?_set_self hl] at hk
    cases hk
    have h1 : H[a]? = some (vp_cell cA (n, .inl f)) := hP k _ h0
    show H[a]? = some (vp_cell cA (n, .inl g))
    rw [h1, cell_ext h]
  · rw [List.getElem?_set_ne (Ne.symm hkq)] at hk
    exact hP k r hk

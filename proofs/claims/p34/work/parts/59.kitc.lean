/-! constructors: what they need, a new cell's place -/
def FX (lo : Nat) (U : State) (H : Heap) : Prop := va_AO "CableFerry$State" U ∧ va_Nw (.fieldLinkNest RX3 18 "CableFerry" "FIRST_SETTINGS" "[I" RX5) U ∧ ∃ t : Nat, va_Z RX5 "FIRST_SETTINGS" "[I" (.ref t) (fun q => lo ≤ q) U H ∧ va_T .int t 3 (fun j => .int (nI (fiS j))) (fun q => lo ≤ q) U H
theorem FX.warm {lo : Nat} {s U : State} {H : Heap} (hW : s.WarmedH U.vm) (h : FX lo s H) : FX lo U H := by
  obtain ⟨h1, h2, t, h3, h4⟩ := h
  exact ⟨va_AO.moved hW.alike h1, va_Nw.warmF hW h2, t, va_Z.moved hW.alike h3, va_T.moved hW.alike h4⟩
theorem FX.calling {lo : Nat} {U : State} {H : Heap} {g : JFrame} {mk : MethodId} {a : Array Value} (h : FX lo U H) : FX lo (U.calling g mk a) H := by
  obtain ⟨h1, h2, t, h3, h4⟩ := h
  exact ⟨va_AO.moved (u := U) (U := U.calling g mk a) (Vm.Alike.refl U.vm) h1, va_Nw.same rfl rfl h2, t, va_Z.moved (u := U) (U := U.calling g mk a) (Vm.Alike.refl U.vm) h3, va_T.moved (u := U) (U := U.calling g mk a) (Vm.Alike.refl U.vm) h4⟩
theorem FX.kept {lo : Nat} {U : State} {H H1 : Heap} (h : FX lo U H) (hq : ∀ a : Nat, a < H.size → ¬ lo ≤ a → H1[a]? = H[a]?) : FX lo U H1 := by
  obtain ⟨h1, h2, t, h3, h4⟩ := h
  exact ⟨h1, h2, t, va_Z.kept h3 hq, va_T.kept h4 hq⟩
def PF (lo : Nat) (As : List Value) (G : eG) (I : Heap → Prop) : Array Value → State → Prop := fun v U => v = As.toArray ∧ EV G U ∧ FX lo U U.heap ∧ I U.heap
theorem PF.blind {lo : Nat} {As : List Value} {G : eG} {I : Heap → Prop} : FrameBlind (PF lo As G I) := fun _ _ _ _ h => ⟨h.1, EV.calling h.2.1, FX.calling h.2.2.1, h.2.2.2⟩
theorem PF.preS {lo : Nat} {As : List Value} {G : eG} {I : Heap → Prop} {s : State} {H : Heap} (hE : EV G s) (hJ : FX lo s H) (hI : I H) : PreS s H (PF lo As G I) As := ⟨PF.blind, fun U hU hW => ⟨rfl, EV.warm hW hE, by rw [hU]; exact FX.warm hW hJ, by rw [hU]; exact hI⟩⟩
theorem ofBFX {lo : Nat} {l : Launch} {y : MethodName} {ws ws' : List Cond} {rm : Room} {Qc : Array Value → State → Outcome → State → Prop} {mc ms : Nat} {free : Addr → Prop} {cc : ByteArray} {maxL : Nat} {ret : Option FieldType} {As : List Value} {G : eG} {I : Heap → Prop}
    (hy : plainName y.cls = true) (hw : ws = Cond.code y cc maxL ret :: ws') (hn : (lg_sl As).length ≤ maxL)
    (body : ∀ (p : Program) (e : Env) (s : State) (m : MethodId) (below : List Frame) (meth : Method) (c : Code), p.tables.exec = Jvm.exec → c.code = cc → meth.sig.returnType = ret → meth.locks = false → c.maxLocals = maxL → s.vm.findClass y.cls = some m.cls → meth.name = y.name → (∀ w ∈ ws, w.before As.toArray s = true) → EV G s → FX lo s s.heap → I s.heap →
      ∀ ls : Array Slot, lv_has ls maxL (lv_args 0 As) → W p l e rm s m As.toArray below meth c s.heap [] 0 0 (MQ below Qc As.toArray s mc ms free) (F0 m 0 ls [])) : Met l y ws rm (PF lo As G I) Qc mc ms free := by
  refine Met.ofW hy hw ?_
  intro p e s m args below meth c s₁ B hml hv
  obtain ⟨rfl, hE, hJ, hI⟩ := hv
  have hl := lv_entry As (n := maxL) hn
  rw [lg_entry_eq]
  exact body p e s m below meth c B.exec B.bytes B.returns B.notSynchronized hml (findClass_of_methodNamed B.named) (name_of_methodNamed B.named B.method).1 (atoms_spec (ws := ws) B.pre) hE hJ hI _ hl
theorem D_one {A : Nat → Prop} {q : Nat} {e : va_E} (h : A q) : va_D A [(q, e)] := by
  rw [D_iff]
  refine ⟨by simp, fun x hx => ?_⟩
  rw [List.mem_singleton] at hx
  rw [hx]
  exact h
theorem A_one {q sz x : Nat} {e : va_E} : va_A [(q, e)] sz x ↔ x = q ∨ sz ≤ x := by
  constructor
  · rintro (⟨k, e', h⟩ | h)
    · have hm := List.mem_of_getElem? h
      rw [List.mem_singleton] at hm
      exact Or.inl (congrArg Prod.fst hm)
    · exact Or.inr h
  · rintro (h | h)
    · exact Or.inl ⟨0, e, by rw [h]; rfl⟩
    · exact Or.inr h
theorem frC {A0 : Nat → Prop} {w : va_W} {q : Nat} {e : va_E} {H0 H : Heap} {locs : List Loc} (hD : va_D A0 (w ++ [(q, e)])) (hS : va_S A0 H0 H locs) (hA : ∀ x, H0.size ≤ x → A0 x) : ∀ x, va_A [(q, e)] H.size x → A0 x := by
  intro x hx
  rcases A_one.mp hx with h | h
  · rw [h]
    exact (D_iff.mp hD).2 (q, e) (List.mem_append_right _ List.mem_cons_self)
  · exact hA x (Nat.le_trans hS.1 h)
/-- behind a constructor's call: the new cell with what it made, behind what there was -/
theorem jnC {A0 : Nat → Prop} {D : va_G} {cl : List vw_C} {w w1 : va_W} {q : Nat} {e : va_E} {H H1 : Heap} (hP : va_P D cl (w ++ [(q, e)]) H) (hD : va_D A0 (w ++ [(q, e)])) (hF : ∀ x, va_A [(q, e)] H.size x → A0 x) (hk : ∀ x : Nat, x < H.size → ¬ va_A [(q, e)] H.size x → H1[x]? = H[x]?)
    (hP1 : va_P D cl w1 H1) (hD1 : va_D (va_A [(q, e)] H.size) w1) : va_P D cl (w ++ w1) H1 ∧ va_D A0 (w ++ w1) := by
  have hP' := P_iff.mp hP
  have hn := (D_iff.mp hD).1
  have hA := (D_iff.mp hD).2
  rw [List.map_append, List.nodup_append] at hn
  have lt : ∀ x, x ∈ w → x.1 < H.size := fun x hx => (hP' x (List.mem_append_left _ hx)).lt
  have ap : ∀ x, x ∈ w → ¬ va_A [(q, e)] H.size x.1 := fun x hx h => by
    rcases A_one.mp h with h | h
    · exact hn.2.2 _ (List.mem_map.mpr ⟨x, hx, rfl⟩) q (by simp) h
    · exact absurd (lt x hx) (Nat.not_lt.mpr h)
  have hn1 := (D_iff.mp hD1).1
  have hA1 := (D_iff.mp hD1).2
  refine ⟨P_iff.mpr fun x hx => ?_, D_iff.mpr ⟨?_, fun x hx => ?_⟩⟩
  · rcases List.mem_append.mp hx with h | h
    · exact (hP' x (List.mem_append_left _ h)).kept (hk x.1 (lt x h) (ap x h))
    · exact P_iff.mp hP1 x h
  · rw [List.map_append, List.nodup_append]
    refine ⟨hn.1, hn1, fun a ha b hb e9 => ?_⟩
    obtain ⟨x, hx, rfl⟩ := List.mem_map.mp ha
    obtain ⟨r, hr, rfl⟩ := List.mem_map.mp hb
    exact ap x hx (by rw [e9]; exact hA1 r hr)
  · rcases List.mem_append.mp hx with h | h
    · exact hA x (List.mem_append_left _ h)
    · exact hF _ (hA1 x h)
theorem naI {D : va_G} {cl : List vw_C} {c0 c1 cA : ClassId} {E : String} {U : State} (hK : va_K D cl [(c0, .int), (c1, .object E)] U) (hN : va_K D cl ([(c0, .int), (c1, .object E)] ++ [(cA, .int)]) U) : cA = c0 :=
  Option.some.inj (((hN.2 2 (cA, .int) rfl).2 : U.vm.findClass ("[" ++ FieldType.int.toString) = some cA).symm.trans ((hK.2 0 (c0, .int) rfl).2 : U.vm.findClass ("[" ++ FieldType.int.toString) = some c0))
theorem naQ {D : va_G} {cl : List vw_C} {c0 c1 cA : ClassId} {E : String} {U : State} (hK : va_K D cl [(c0, .int), (c1, .object E)] U) (hN : va_K D cl ([(c0, .int), (c1, .object E)] ++ [(cA, .object E)]) U) : cA = c1 := by
  obtain ⟨-, -, -, -, -, h1⟩ := (hN.2 2 (cA, .object E) rfl).2
  obtain ⟨-, -, -, -, -, h2⟩ := (hK.2 1 (c1, .object E) rfl).2
  exact Option.some.inj (h1.symm.trans h2)
/-- a row of references, said otherwise -/
theorem P_extq {D : va_G} {cl : List vw_C} {ws ws' : va_W} {H : Heap} {a n : Nat} {cA : ClassId} {f g : Nat → Option Nat} (q : Nat) (h0 : ws[q]? = some (a, .inl (cA, n, .inr (.inr (.inr (.inr f)))))) (hw : ws.set q (a, .inl (cA, n, .inr (.inr (.inr (.inr g))))) = ws') (h : ∀ j, j < n → f j = g j) (hP : va_P D cl ws H) : va_P D cl ws' H := by
  subst hw
  have hl := (List.getElem?_eq_some_iff.mp h0).1
  intro k r hk
  by_cases hkq : k = q
  · subst hkq
    rw [List.getElem?_set_self hl] at hk
    cases hk
    have h1 : H[a]? = some (vp_cell cA (n, .inr (.inr (.inr (.inr f))))) := hP k _ h0
    show H[a]? = some (vp_cell cA (n, .inr (.inr (.inr (.inr g)))))
    rw [h1, vp_cell_q, vp_cell_q]
    unfold arrV
    congr 2
    congr 1
    funext j
    exact congrArg va_rf (h j.val j.isLt)
  · rw [List.getElem?_set_ne (fun e => hkq e.symm)] at hk
    exact hP k r hk
def PTW (As : List Value) (G : eG) (t : Nat) (A : Nat → Prop) (I : Heap → Prop) : Array Value → State → Prop := fun v U => v = As.toArray ∧ EV G U ∧ va_T .int t 3 (fun j => .int (nI (fiS j))) A U U.heap ∧ I U.heap
theorem PTW.preS {As : List Value} {G : eG} {t : Nat} {A : Nat → Prop} {I : Heap → Prop} {s : State} {H : Heap} (hE : EV G s) (hT : va_T .int t 3 (fun j => .int (nI (fiS j))) A s H) (hI : I H) : PreS s H (PTW As G t A I) As :=
  ⟨fun _ U jf mk h => ⟨h.1, EV.calling h.2.1, va_T.moved (u := U) (U := U.calling jf mk _) (Vm.Alike.refl U.vm) h.2.2.1, h.2.2.2⟩, fun U hU hW => ⟨rfl, EV.warm hW hE, by rw [hU]; exact va_T.moved hW.alike hT, by rw [hU]; exact hI⟩⟩
section KCP
variable {p : Program} {l : Launch} {e : Env} {R : Room} {s : State} {m : MethodId} {args : Array Value} {below : List Frame} {meth : Method} {c : Code} {H : Heap} {locs : List Loc} {cells slots : Nat} {Q : State → Prop}
variable {cc : ByteArray} {pc : Nat} {ls : Array Slot} {D : va_G} {cl : List vw_C} {A : Nat → Prop} {tys : List (ClassId × FieldType)}
/-- three numbers of a static row, copied into a row of three -/
theorem cp3 (hx : p.tables.exec = Jvm.exec) (hb : c.code = cc) (hml : c.maxLocals = ls.size) {own : String} {index t b : Nat} {c1 : ClassId} {f g : Nat → Int32} (hown : s.vm.findClass own = some m.cls) (hlink : (Cond.methodLink own index arraycopyName).before args s = true) (hnat : (Cond.native arraycopyName).before args s = true) (hstat : (Cond.static arraycopyName).before args s = true) (hini : (Cond.initialized "java/lang/System").before args s = true)
    (hK : va_K D cl ((c1, .int) :: tys) s) (hP : va_P D cl [(b, .inl (c1, 3, .inl g))] H) (hD : va_D A [(b, .inl (c1, 3, .inl g))]) (hS : va_S A s.heap H locs) (hT : va_T .int t 3 (fun j => .int (f j)) A s s.heap) (hfr : 1 ≤ R.frames) (hlo : nativeFrameWords "java/lang/System" "arraycopy" 5 + 11 ≤ R.locals) (hdg : decode cc pc = .ok (.invokestatic index, 3))
    (kk : ∀ (H1 : Heap) (locs1 : List Loc), va_P D cl [(b, .inl (c1, 3, .inl (va_cpy f g 0 0 3)))] H1 → va_D A [(b, .inl (c1, 3, .inl (va_cpy f g 0 0 3)))] → va_S A s.heap H1 locs1 → W p l e R s m args below meth c H1 locs1 cells slots Q (F0 m (pc + 3) ls [])) : W p l e R s m args below meth c H locs cells slots Q (F0 m pc ls [.int (nI 3), .int (nI 0), .ref b, .int (nI 0), .ref t]) := by
  intro T hT0 X
  obtain ⟨row, r1, r2, r3, r4, -, r5, r6⟩ := hT
  obtain ⟨z1, ka, z2, comp, z3⟩ := r2
  obtain ⟨-, kb, y2, comp', y3⟩ := (hK.2 0 _ rfl).1 3 (fun j => .int (g j))
  have hrow : H[t]? = some row := (hS.2.1 t (Array.getElem?_eq_some_iff.mp r1).1 r6).trans r1
  have hto : H[b]? = some (vp_cell c1 (3, .inl g)) := hP 0 _ rfl
  have hlt : b < H.size := (Array.getElem?_eq_some_iff.mp hto).1
  obtain ⟨vm', X', step⟩ := X.arraycopy hx hown hlink hnat hstat hini (src := t) (dst := b) (cs := row) (cd := vp_cell c1 (3, .inl g)) (srcPos := nI 0) (destPos := nI 0) (n := nI 3) (by rw [hT0]; exact hrow) (by rw [hT0]; exact hto)
    z1 (fun _ h => by cases h) r3 (fun h => by cases h) z2 y2 z3 y3 (by simp [refKind]) (by decide +kernel) (by decide +kernel) (by decide +kernel)
    (by rw [show (nI 0).toInt = 0 from by decide +kernel, show (nI 3).toInt = 3 from by decide +kernel]; omega)
    (by rw [show (nI 0).toInt = 0 from by decide +kernel, show (nI 3).toInt = 3 from by decide +kernel]; show ¬ _ > ((arrV c1 3 (fun j => .int (g j))).slots.size : Int); rw [arrV_size]; omega)
    (fun _ _ i hi => by
      have hi3 : i < 3 := by rw [show (nI 3).toNatClampNeg = 3 from by decide +kernel] at hi; exact hi
      have e9 : row.slots.getD ((nI 0).toNatClampNeg + i) .null = .int (f i) := by
        rw [show (nI 0).toNatClampNeg + i = i from by rw [show (nI 0).toNatClampNeg = 0 from by decide +kernel, Nat.zero_add], Array.getD_eq_getD_getElem?, r5 i hi3]
        rfl
      rw [e9]
      exact ⟨rfl, trivial⟩)
    (g := F0 m pc ls [.int (nI 3), .int (nI 0), .ref b, .int (nI 0), .ref t]) rfl (by rw [hml]) (rest := []) rfl (by rw [hb]; exact hdg) hfr (by show 2 * 0 + _ + _ ≤ _; simpa using hlo)
  have ec : copied row (vp_cell c1 (3, .inl g)) (nI 0) (nI 0) (nI 3) = vp_cell c1 (3, .inl (va_cpy f g 0 0 3)) := by
    have := va_copiedX (fun z => .int z) row c1 (n0 := 3) (n1 := 3) (sp := (nI 0).toNatClampNeg) (dp := (nI 0).toNatClampNeg) (n := (nI 3).toNatClampNeg) f g r5 (by decide +kernel)
    exact this
  rw [ec] at X' step
  have oq : ∀ q : Nat, q ≠ b → (H.setIfInBounds b (vp_cell c1 (3, .inl (va_cpy f g 0 0 3))))[q]? = H[q]? := fun q hq => by simp [Array.getElem?_setIfInBounds, Ne.symm hq]
  have hheap : ((T.setVm vm').setCell b (vp_cell c1 (3, .inl (va_cpy f g 0 0 3)))).heap = H.setIfInBounds b (vp_cell c1 (3, .inl (va_cpy f g 0 0 3))) := by rw [← hT0]; rfl
  have hAb : A b := hD.2 0 _ rfl
  obtain ⟨t1, a1, b1⟩ := kk _ _ (va_P.set hP hD (p := 0) rfl (show (H.setIfInBounds b _)[b]? = some _ by simp [Array.getElem?_setIfInBounds, hlt]) oq) (D_one hAb) ⟨by simp; exact hS.1, fun q g1 g2 => (oq q (fun e => g2 (by rw [e]; exact hAb))).trans (hS.2.1 q g1 g2), fun q hq => by
      rcases List.mem_append.mp hq with h | h
      · exact hS.2.2 q h
      · obtain ⟨z, -, hz⟩ := List.mem_map.mp h
        rw [← hz]
        exact hAb⟩ _ hheap X'
  exact ⟨t1, step t1 a1, b1⟩
end KCP
set_option maxHeartbeats 4000000 in
set_option maxRecDepth 100000 in
/-- copyRow, of a static row of three -/
theorem c_X5_copyRow_T (l : Launch) (G : eG) (t b : Nat) (g : Nat → Int32) : Met l yX5_copyRow wsX5_copyRow ({ frames := 1, cells := 0, slots := 0, locals := 40 }) (PTW [.ref t, .ref b] G t (inW [(b, .inl (G.2.1, 3, .inl g))]) (fun H => va_P G.1 vwCl [(b, .inl (G.2.1, 3, .inl g))] H ∧ va_D (fun _ => True) [(b, .inl (G.2.1, 3, .inl g))])) (MV (none) (fun H => va_P G.1 vwCl [(b, .inl (G.2.1, 3, .inl (fun j => nI (fiS j))))] H ∧ va_D (inW [(b, .inl (G.2.1, 3, .inl g))]) [(b, .inl (G.2.1, 3, .inl (fun j => nI (fiS j))))]) (inW [(b, .inl (G.2.1, 3, .inl g))])) 0 0 (inW [(b, .inl (G.2.1, 3, .inl g))]) := by
  refine Met.ofW (cc := cX5_copyRow) (maxL := 2) (ret := none) (by decide) rfl ?_
  intro p e s m args below meth c s₁ B hml hv
  obtain ⟨rfl, hE, hT, hP, hD0⟩ := hv
  have hl := lv_entry [.ref t, .ref b] (n := 2) (Nat.le_of_ble_eq_true rfl)
  rw [lg_entry_eq]
  have hx := B.exec
  have hb := B.bytes
  have hr := B.returns
  have hlocks := B.notSynchronized
  have hts := atoms_spec (ws := wsX5_copyRow) B.pre
  have hown : s.vm.findClass RX5 = some m.cls := findClass_of_methodNamed B.named
  generalize (lg_sl ([.ref t, .ref b]) ++ List.replicate (2 - (lg_sl ([.ref t, .ref b])).length) Slot.unset).toArray = ls at hl ⊢
  have hl : lv_has ls 2 [(0, .ref t), (1, .ref b)] := hl
  have hD : va_D (inW [(b, .inl (G.2.1, 3, .inl g))]) [(b, .inl (G.2.1, 3, .inl g))] := D_self hD0
  obtain ⟨A, hAe⟩ : ∃ A, A = inW [(b, .inl (G.2.1, 3, .inl g))] := ⟨_, rfl⟩
  rw [← hAe] at hD hT ⊢
  have hS : va_S A s.heap s.heap [] := va_S.rf
  refine lv_aload_n hx hb dX5_copyRow_0 rfl (lv_at hl 0 rfl) ?_
  refine lv_iconst (v := nI 0) hx hb dX5_copyRow_1 (by decide +kernel) ?_
  refine lv_aload_n hx hb dX5_copyRow_2 rfl (lv_at hl 1 rfl) ?_
  refine lv_iconst (v := nI 0) hx hb dX5_copyRow_3 (by decide +kernel) ?_
  refine lv_aload_n hx hb dX5_copyRow_4 rfl (lv_at hl 0 rfl) ?_
  refine va_tlen (v := nI 3) hx hb hT hS rfl dX5_copyRow_5 ?_
  refine lv_aload_n hx hb dX5_copyRow_6 rfl (lv_at hl 1 rfl) ?_
  refine va_alen (v := nI 3) hx hb hE.1 hP 0 0 rfl rfl rfl dX5_copyRow_7 ?_
  refine va_mmin hx hb (hml.trans hl.1.symm) hown (hts (.methodLink RX5 313 Lib.Math.min.name) (by decide +kernel)) (hts (.static Lib.Math.min.name) (by decide +kernel)) (hts (.initialized "java/lang/Math") (by decide +kernel)) (hts (.code Lib.Math.min.name Lib.Math.min.code 2 (some .int)) (by decide +kernel)) (by decide) (Nat.le_of_ble_eq_true rfl) (Nat.zero_le _) (Nat.zero_le _) dX5_copyRow_8 ?_
  refine tI (y := nI 3) (by split <;> rfl) ?_
  refine cp3 hx hb (hml.trans hl.1.symm) hown (hts (.methodLink RX5 319 arraycopyName) (by decide +kernel)) (hts (.native arraycopyName) (by decide +kernel)) (hts (.static arraycopyName) (by decide +kernel)) (hts (.initialized "java/lang/System") (by decide +kernel)) hE.1 hP hD hS hT (by decide) (Nat.le_of_ble_eq_true rfl) dX5_copyRow_11 (fun H locs hP hD hS => ?_)
  replace hP := P_ext (ws' := [(b, .inl (G.2.1, 3, .inl (fun j => nI (fiS j))))]) (g := fun j => nI (fiS j)) 0 rfl rfl cpyN hP
  replace hD := va_D.set (p := 0) (e := .inl (G.2.1, 3, .inl (fun j => nI (fiS j)))) hD rfl
  exact W.vret hx hb hr (fun t ht hW => ⟨rfl, by rw [ht]; exact ⟨hP, hD⟩, hS.F ht⟩) hS.2.2 dX5_copyRow_14

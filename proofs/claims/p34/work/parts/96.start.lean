theorem in_uX0 : ∀ w ∈ u_ws RX0 TX0 3, w ∈ lw_tbl := fun w h => inX0 w ((show ∀ w ∈ u_ws RX0 TX0 3, w ∈ wsX00 by decide +kernel) w h)
theorem in_uX1 : ∀ w ∈ u_ws RX1 TX1 4, w ∈ lw_tbl := fun w h => inX1 w ((show ∀ w ∈ u_ws RX1 TX1 4, w ∈ wsX10 by decide +kernel) w h)
theorem in_uX2 : ∀ w ∈ u_ws RX2 TX2 4, w ∈ lw_tbl := fun w h => inX2 w ((show ∀ w ∈ u_ws RX2 TX2 4, w ∈ wsX20 by decide +kernel) w h)
theorem in_uX3 : ∀ w ∈ u_ws RX3 TX3 14, w ∈ lw_tbl := fun w h => inX3 w ((show ∀ w ∈ u_ws RX3 TX3 14, w ∈ wsX30 by decide +kernel) w h)
theorem in_uX4 : ∀ w ∈ u_ws RX4 TX4 4, w ∈ lw_tbl := fun w h => inX4 w ((show ∀ w ∈ u_ws RX4 TX4 4, w ∈ wsX40 by decide +kernel) w h)
theorem in_uX5 : ∀ w ∈ u_ws RX5 TX5 6, w ∈ lw_tbl := fun w h => inX5 w ((show ∀ w ∈ u_ws RX5 TX5 6, w ∈ wsX50 by decide +kernel) w h)
/-- a static row of three numbers, at a start -/
theorem tab_start {s : State} {b : Addr} {nm : String} {g : Nat → Nat} {A : Nat → Prop} (hts : ∀ w ∈ lw_tbl, w.before #[Value.ref b] s = true) (hq : ∀ w ∈ flatC (Jvm.Cond.and given_1 narrow_1), w.before #[Value.ref b] s = true) (hA : ∀ a : Nat, a < s.heap.size → ¬ A a)
    (h1 : Cond.laysStatic RX5 nm "[I" ∈ lw_tbl) (h2 : Cond.arrayOf (Term.static RX5 nm "[I") .int ∈ flatC (Jvm.Cond.and given_1 narrow_1)) (h3 : Cond.eq (Term.length (Term.static RX5 nm "[I")) (.int (Int32.ofNat 3)) ∈ flatC (Jvm.Cond.and given_1 narrow_1))
    (h4 : ∀ j, j < 3 → Cond.eq (Term.elem (Term.static RX5 nm "[I") (.int (Int32.ofNat j))) (.int (nI (g j))) ∈ flatC (Jvm.Cond.and given_1 narrow_1)) : ∃ t : Nat, va_Z RX5 nm "[I" (.ref t) A s s.heap ∧ va_T .int t 3 (fun j => .int (nI (g j))) A s s.heap := by
  obtain ⟨t, e, hT⟩ := va_Tof (tm := Term.static RX5 nm "[I") (ty := .int) (N := 3) (f := fun j => .int (nI (g j))) (A := A) (by decide) (hq _ h2) (va_eqt (hq _ h3)) (fun j hj => va_eqt (hq _ (h4 j hj))) hA
  exact ⟨t, va_Zof (hts _ h1) (hts (.initialized RX5) (by decide +kernel)) e hA, hT⟩
theorem three {P : Nat → Prop} (h0 : P 0) (h1 : P 1) (h2 : P 2) : ∀ j, j < 3 → P j := by
  intro j hj
  rcases (show j = 0 ∨ j = 1 ∨ j = 2 by omega) with rfl | rfl | rfl
  · exact h0
  · exact h1
  · exact h2
theorem tab_LEAST {s : State} {b : Addr} {A : Nat → Prop} (hts : ∀ w ∈ lw_tbl, w.before #[Value.ref b] s = true) (hq : ∀ w ∈ flatC (Jvm.Cond.and given_1 narrow_1), w.before #[Value.ref b] s = true) (hA : ∀ a : Nat, a < s.heap.size → ¬ A a) : ∃ t : Nat, va_Z RX5 "LEAST_SETTINGS" "[I" (.ref t) A s s.heap ∧ va_T .int t 3 (fun j => .int (nI (stLo j))) A s s.heap :=
  tab_start hts hq hA (by decide +kernel) (by decide +kernel) (by decide +kernel) (three (by decide +kernel) (by decide +kernel) (by decide +kernel))
theorem tab_GREATEST {s : State} {b : Addr} {A : Nat → Prop} (hts : ∀ w ∈ lw_tbl, w.before #[Value.ref b] s = true) (hq : ∀ w ∈ flatC (Jvm.Cond.and given_1 narrow_1), w.before #[Value.ref b] s = true) (hA : ∀ a : Nat, a < s.heap.size → ¬ A a) : ∃ t : Nat, va_Z RX5 "GREATEST_SETTINGS" "[I" (.ref t) A s s.heap ∧ va_T .int t 3 (fun j => .int (nI (stHi j))) A s s.heap :=
  tab_start hts hq hA (by decide +kernel) (by decide +kernel) (by decide +kernel) (three (by decide +kernel) (by decide +kernel) (by decide +kernel))
theorem tab_FIRST {s : State} {b : Addr} {A : Nat → Prop} (hts : ∀ w ∈ lw_tbl, w.before #[Value.ref b] s = true) (hq : ∀ w ∈ flatC (Jvm.Cond.and given_1 narrow_1), w.before #[Value.ref b] s = true) (hA : ∀ a : Nat, a < s.heap.size → ¬ A a) : ∃ t : Nat, va_Z RX5 "FIRST_SETTINGS" "[I" (.ref t) A s s.heap ∧ va_T .int t 3 (fun j => .int (nI (fiS j))) A s s.heap :=
  tab_start hts hq hA (by decide +kernel) (by decide +kernel) (by decide +kernel) (three (by decide +kernel) (by decide +kernel) (by decide +kernel))
theorem strs_ok : strX.all (fun q => decide (Cond.stringRef RX5 q.1 q.2 ∈ lw_tbl) && decide (Cond.exactly (Term.string RX5 q.1) "java/lang/String" ∈ flatC (Jvm.Cond.and given_1 narrow_1))) = true := by decide +kernel
theorem nest_ok : ∀ q ∈ nestL, Cond.methodLinkNest q.1 q.2.1 q.2.2 RX5 ∈ lw_tbl := by decide +kernel
theorem exc_ok : ∀ E ∈ excX, Cond.castable E E ∈ lw_tbl := by decide +kernel
theorem dec_ok : ∀ x ∈ decX, Cond.declares x ∈ lw_tbl := by decide +kernel
/-- what the tables say of the statics, the strings, the exceptions -/
theorem jx_start {s : State} {b : Addr} (hts : ∀ w ∈ lw_tbl, w.before #[Value.ref b] s = true) (hq : ∀ w ∈ flatC (Jvm.Cond.and given_1 narrow_1), w.before #[Value.ref b] s = true) : JX s s.heap := by
  have hA : ∀ a : Nat, a < s.heap.size → ¬ noA a := fun _ _ h => h
  refine ⟨vx_Zqof (hts (.laysStatic Bundle.tN "UNASSIGNED_STACK" Bundle.steD) (by decide +kernel)) (hts (.initialized Bundle.tN) (by decide +kernel)) (hq (.isRef (.static Bundle.tN "UNASSIGNED_STACK" Bundle.steD)) (by decide +kernel)) hA, vx_Zqof (hts (.laysStatic Bundle.tN "SUPPRESSED_SENTINEL" Bundle.listD) (by decide +kernel)) (hts (.initialized Bundle.tN) (by decide +kernel)) (hq (.isRef (.static Bundle.tN "SUPPRESSED_SENTINEL" Bundle.listD)) (by decide +kernel)) hA,
    fun q hq9 => ?_, fun E hE => va_Nw.of rfl (hts _ (exc_ok E hE)), ⟨fun x hx => va_Nw.of rfl (hts _ (dec_ok x hx)), va_Nc.of (hq (.not (.castable "java/lang/IllegalArgumentException" "java/lang/IndexOutOfBoundsException")) (by decide +kernel)), va_Nc.of (hq (.not (.castable "java/lang/IllegalStateException" "java/lang/IndexOutOfBoundsException")) (by decide +kernel)), va_Nc.of (hq (.not (.castable "java/lang/IllegalStateException" "java/lang/IllegalArgumentException")) (by decide +kernel))⟩, fun q hq9 => ?_⟩
  · have h := List.all_eq_true.mp strs_ok q hq9
    rw [Bool.and_eq_true, decide_eq_true_eq, decide_eq_true_eq] at h
    obtain ⟨a, c, cell, k, q1, -⟩ := Cond.exactly_spec (args := #[Value.ref b]) (first := s) (o := none) (s := s) (idx := []) (t := Term.string RX5 q.1) (cls := "java/lang/String") (hq _ h.2)
    exact ⟨a, vk_R.of (hts _ h.1) q1⟩
  · have h9 : q = ("LEAST_SETTINGS", stLo) ∨ q = ("GREATEST_SETTINGS", stHi) ∨ q = ("FIRST_SETTINGS", fiS) := by simpa [setX] using hq9
    rcases h9 with rfl | rfl | rfl
    · exact tab_LEAST hts hq hA
    · exact tab_GREATEST hts hq hA
    · exact tab_FIRST hts hq hA

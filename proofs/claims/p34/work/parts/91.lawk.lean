def la_L1 : List Nat := [300, 12, 10, 10, 10, 10, 10, 10, 10, 10, 10, 10, 10, 10, 10, 10, 10, 10, 10, 10, 10, 10, 10, 10, 10, 10, 10, 0, 0, 0, 0, 0, 0, 0, 0, 0, 0, 0, 0, 0, 0, 0, 0, 0, 0, 0, 0, 0, 0, 40, 0, 0, 0, 1, 0, 0, 0, 1, 9, 0, 0, 0, 0, 0, 0, 0, 0, 0, 0, 0, 0, 0, 0, 0, 0, 0, 0, 0, 0, 0, 0, 0, 0, 0, 0, 0, 0, 0, 0, 0, 0, 0, 0, 0, 0, 0, 0]
theorem la_e0 : fArr (fnL L0) 0 (nI 9) = fnL la_L1 := fn_eq 97 (by decide +kernel) (by decide +kernel) (hi_arr (hi_fn (by decide +kernel)) (by decide) (by decide +kernel))
def la_L2 : List Nat := [300, 12, 10, 10, 10, 10, 10, 10, 10, 10, 10, 10, 10, 10, 10, 10, 10, 10, 10, 10, 10, 10, 10, 10, 10, 10, 10, 0, 0, 0, 0, 0, 0, 0, 0, 0, 0, 0, 0, 0, 0, 0, 0, 0, 0, 0, 0, 0, 0, 40, 0, 0, 0, 2, 0, 0, 0, 1, 9, 0, 0, 0, 0, 0, 0, 0, 0, 0, 1, 4, 0, 0, 0, 0, 0, 0, 0, 0, 0, 0, 0, 0, 0, 0, 0, 0, 0, 0, 0, 0, 0, 0, 0, 0, 0, 0, 0]
theorem la_e1 : fArr (fnL la_L1) 1 (nI 4) = fnL la_L2 := fn_eq 97 (by decide +kernel) (by decide +kernel) (hi_arr (hi_fn (by decide +kernel)) (by decide) (by decide +kernel))
def LSN : List Nat := [300, 12, 10, 10, 10, 10, 10, 10, 10, 10, 10, 10, 10, 10, 10, 10, 10, 10, 10, 10, 10, 10, 10, 10, 10, 10, 10, 0, 0, 0, 0, 0, 0, 0, 0, 0, 0, 0, 0, 0, 0, 0, 0, 0, 0, 0, 0, 0, 0, 40, 0, 0, 0, 2, 0, 0, 0, 0, 0, 0, 0, 0, 0, 0, 0, 0, 0, 0, 1, 4, 0, 0, 0, 0, 0, 0, 0, 0, 0, 1, 9, 0, 0, 0, 0, 0, 0, 0, 0, 0, 0, 0, 0, 0, 0, 0, 0]
theorem la_e2 : fLod (fnL la_L2) 0 = fnL LSN := fn_eq 97 (by decide +kernel) (by decide +kernel) (hi_lod (hi_fn (by decide +kernel)) (by decide) (by decide +kernel) (by decide +kernel))
/-! the law's loop: what holds, the ring behind a save -/
def LX (p : Program) (s : State) (m : MethodId) (c : Code) (b L : Nat) (xs : Nat → Int32) (G : eG) (cJ : ClassId) : Prop := p.tables.exec = Jvm.exec ∧ c.code = cL_law ∧ c.maxLocals = 14 ∧ s.vm.findClass RL = some m.cls ∧ (∀ w ∈ wsL_law, w.before #[Value.ref b] s = true) ∧ EV G s ∧ JB s.heap.size s s.heap ∧ va_K G.1 vwCl [(cJ, .long)] s ∧ va_X b L xs s s.heap ∧ b < s.heap.size ∧ L ≤ 260
def wA (q : Nat) (cJ : ClassId) (g : Nat → Int64) : va_W := [(q, .inl (cJ, 64, .inr (.inl g)))]
def LD (s : State) (G : eG) (cJ : ClassId) (fe q B : Nat) (f : Nat → Int32) (ff : Nat → Nat → Int32) (old sz : Nat) (g : Nat → Int64) (WC : va_W) (H : Heap) (locs : List Loc) : Prop := XS G fe f (fnL LSN) ff old sz 0 (fnL T0) (nI 1) WC ∧ PR B f (fnL LSN) ff old sz 0 (fnL T0) (nI 1) ∧ va_P G.1 vwCl (WC ++ wA q cJ g) H ∧ va_D (AA s) (WC ++ wA q cJ g) ∧ va_S (AA s) s.heap H locs
/-- the ring holds the last states, the youngest first -/
def RG (fs : Nat → Nat → Int32) (f : Nat → Int32) (ff : Nat → Nat → Int32) (old sz acts : Nat) : Prop := f = fs acts ∧ ∀ j, j < sz → j < acts → ff ((old + (sz - 1 - j)) % 6) = fs (acts - 1 - j)
def fsN (fs : Nat → Nat → Int32) (n : Nat) (f : Nat → Int32) : Nat → Nat → Int32 := fun i => if i = n then f else fs i
theorem fsN_s {fs : Nat → Nat → Int32} {n : Nat} {f : Nat → Int32} : fsN fs n f n = f := if_pos rfl
theorem fsN_n {fs : Nat → Nat → Int32} {n i : Nat} {f : Nat → Int32} (h : i ≠ n) : fsN fs n f i = fs i := if_neg h
theorem RG_sav {fs : Nat → Nat → Int32} {f f' : Nat → Int32} {ff : Nat → Nat → Int32} {old sz acts : Nat} (ho : old < 6) (hz : sz ≤ 6) (h : RG fs f ff old sz acts) : RG (fsN fs (acts + 1) f') f' (rgS ff (hAt old sz) f) (hOld old sz) (svM sz) (acts + 1) := by
  obtain ⟨h1, h2⟩ := h
  refine ⟨fsN_s.symm, fun j hj ha => ?_⟩
  rw [fsN_n (by omega)]
  unfold svM at hj ⊢
  by_cases h6 : sz = 6
  · rw [svN_6 h6] at hj ⊢
    rw [hOld_6 h6]
    have eA : hAt old sz = ((old + 1) % 6 + 5) % 6 := by unfold hAt; rw [hOld_6 h6, svN_6 h6, h6]
    rw [eA]
    by_cases e : j = 0
    · subst e
      rw [show ((old + 1) % 6 + (sz - 1 + 1 - 1 - 0)) % 6 = ((old + 1) % 6 + 5) % 6 by omega, h1]
      exact if_pos rfl
    · rw [show rgS ff (((old + 1) % 6 + 5) % 6) f (((old + 1) % 6 + (sz - 1 + 1 - 1 - j)) % 6) = ff (((old + 1) % 6 + (sz - 1 + 1 - 1 - j)) % 6) from if_neg (by omega), show ((old + 1) % 6 + (sz - 1 + 1 - 1 - j)) % 6 = (old + (sz - 1 - (j - 1))) % 6 by omega, h2 (j - 1) (by omega) (by omega)]
      congr 1
      omega
  · rw [svN_n h6] at hj ⊢
    rw [hOld_n h6]
    have eA : hAt old sz = (old + sz) % 6 := by unfold hAt; rw [hOld_n h6, svN_n h6]
    rw [eA]
    by_cases e : j = 0
    · subst e
      rw [show (old + (sz + 1 - 1 - 0)) % 6 = (old + sz) % 6 by omega, h1]
      exact if_pos rfl
    · rw [show rgS ff ((old + sz) % 6) f ((old + (sz + 1 - 1 - j)) % 6) = ff ((old + (sz + 1 - 1 - j)) % 6) from if_neg (by omega), show (old + (sz + 1 - 1 - j)) % 6 = (old + (sz - 1 - (j - 1))) % 6 by omega, h2 (j - 1) (by omega) (by omega)]
      congr 1
      omega
theorem nI_ge7 {x : Int32} {n : Nat} (h : x = nI n) (hn : n < 2147483648) : 0 ≤ x := by rw [h]; exact nI_pos' hn

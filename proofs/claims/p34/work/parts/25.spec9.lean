/-! the wire's cells, out of the row -/
theorem maxI_mx {g : Nat → Int32} {k : Nat} : (if maxI g k < g k then g k else maxI g k) = maxI g (k + 1) := by
  show _ = (if g k ≤ maxI g k then maxI g k else g k)
  by_cases h : g k ≤ maxI g k
  · rw [if_pos h, if_neg (Int32.not_lt.mpr h)]
  · rw [if_neg h, if_pos (Int32.not_le.mp h)]
theorem crWj_s {f : Nat → Int32} {i : Nat} : upd (fun j => crW f i (27 + j)) i (cap (f (27 + i) + fTen f i / f 2)) = fun j => crW f (i + 1) (27 + j) := by
  funext j
  rw [← crW_s]
  by_cases q : j = i
  · subst q
    rw [pk_us, pk_us]
  · rw [pk_un q, pk_un (by omega)]
theorem crWj_0 {f : Nat → Int32} : (fun j => crW f 0 (27 + j)) = fun j => f (27 + j) := by
  funext j
  rw [crW_0]
theorem c1_47 {f : Nat → Int32} : fC1 f 47 = nI (fSl f) := stc_47
theorem c1_48 {f : Nat → Int32} : fC1 f 48 = nI (fX f % 500) := by
  unfold fC1 fStc
  rw [pk_un (by omega), pk_us]
theorem c1_49 {f : Nat → Int32} : fC1 f 49 = f 49 := c1_o (by omega) (by omega) (by omega)
theorem c1_w {f : Nat → Int32} : ∀ j, j < 20 → crW f 20 (27 + j) = fC1 f (27 + j) := fun j hj => by
  unfold fC1
  rw [stc_o (by omega) (by omega)]
theorem drWj_0 {f : Nat → Int32} {n : Nat} : (fun j => drW f n 0 (27 + j)) = fun j => f (27 + j) := by
  funext j
  rw [drW_0]
theorem drWj_s {f : Nat → Int32} {n i : Nat} {v : Int32} (hv : v = if 27 + i + n < 47 then f (27 + i + n) else nI 0) : upd (fun j => drW f n i (27 + j)) i v = fun j => drW f n (i + 1) (27 + j) := by
  funext j
  rw [← drW_s hv]
  by_cases q : j = i
  · subst q
    rw [pk_us, pk_us]
  · rw [pk_un q, pk_un (by omega)]
theorem drw_47 {f : Nat → Int32} {n : Nat} : fDrw f n 47 = nI 0 := by
  unfold fDrw
  rw [pas_o (by omega) (by omega), pk_un (by omega), pk_us]
theorem drw_48 {f : Nat → Int32} {n : Nat} : fDrw f n 48 = nI 0 := by
  unfold fDrw
  rw [pas_o (by omega) (by omega), pk_us]
theorem drw_49 {f : Nat → Int32} {n : Nat} : fDrw f n 49 = f 49 - nI n := by
  unfold fDrw
  rw [pas_o (by omega) (by omega), pk_un (by omega), pk_un (by omega), pk_us]
theorem drw_w {f : Nat → Int32} {n : Nat} : ∀ j, j < 20 → drW f n 20 (27 + j) = fDrw f n (27 + j) := fun j hj => by
  unfold fDrw
  rw [pas_o (by omega) (by omega), pk_un (by omega), pk_un (by omega), pk_un (by omega)]

/-! one order at the place sp: whether it is one, where it ends, what is read -/
def okF (t : Nat → Nat) (n sp : Nat) : Bool := if lC t n sp = 97 then aOk t n sp else if lC t n sp = 108 then (aO1 t n sp).isSome else if lC t n sp = 117 then true else if lC t n sp = 120 then true else if lC t n sp = 119 then (nb t n (sp + 1) 24).isSome else if lC t n sp = 100 then (nb t n (sp + 1) 5).isSome else false
def nxF (t : Nat → Nat) (n sp : Nat) : Nat := if lC t n sp = 97 then aS t n sp else if lC t n sp = 108 then aS2 t n sp else if lC t n sp = 117 then sp + 1 else if lC t n sp = 120 then sp + 1 else if lC t n sp = 119 then nbS t n (sp + 1) 24 else if lC t n sp = 100 then nbS t n (sp + 1) 5 else sp
def bdF (t : Nat → Nat) (n sp : Nat) (bd : Bool) : Bool := if lC t n sp = 97 then aB t n sp bd else if lC t n sp = 108 then tkB t n (sp + 1) 48 49 bd else if lC t n sp = 117 then bd else if lC t n sp = 120 then bd else if lC t n sp = 119 then nbB t n (sp + 1) 24 bd else if lC t n sp = 100 then nbB t n (sp + 1) 5 bd else decide (sp < n)
def oneF (t : Nat → Nat) (n sp : Nat) (o : Int32) : Int32 := if lC t n sp = 97 then ov (aO1 t n sp) else if lC t n sp = 108 then ov (aO1 t n sp) else if lC t n sp = 117 then nI 0 else if lC t n sp = 120 then nI 0 else if lC t n sp = 119 then ov (nb t n (sp + 1) 24) else if lC t n sp = 100 then ov (nb t n (sp + 1) 5) else o
def twoF (t : Nat → Nat) (n sp : Nat) (o : Int32) : Int32 := if lC t n sp = 97 then aW2 t n sp else if lC t n sp = 108 then nI 0 else if lC t n sp = 117 then nI 0 else if lC t n sp = 120 then nI 0 else if lC t n sp = 119 then nI 0 else if lC t n sp = 100 then nI 0 else o
theorem oF_97 {t : Nat → Nat} {n sp : Nat} {bd : Bool} {o1 o2 : Int32} (h : lC t n sp = 97) : okF t n sp = (aOk t n sp) ∧ nxF t n sp = aS t n sp ∧ bdF t n sp bd = (aB t n sp bd) ∧ oneF t n sp o1 = ov (aO1 t n sp) ∧ twoF t n sp o2 = aW2 t n sp := by unfold okF nxF bdF oneF twoF; simp [h]
theorem oF_108 {t : Nat → Nat} {n sp : Nat} {bd : Bool} {o1 o2 : Int32} (h : lC t n sp = 108) : okF t n sp = ((aO1 t n sp).isSome) ∧ nxF t n sp = aS2 t n sp ∧ bdF t n sp bd = (tkB t n (sp + 1) 48 49 bd) ∧ oneF t n sp o1 = ov (aO1 t n sp) ∧ twoF t n sp o2 = nI 0 := by unfold okF nxF bdF oneF twoF; simp [h]
theorem oF_117 {t : Nat → Nat} {n sp : Nat} {bd : Bool} {o1 o2 : Int32} (h : lC t n sp = 117) : okF t n sp = (true) ∧ nxF t n sp = sp + 1 ∧ bdF t n sp bd = (bd) ∧ oneF t n sp o1 = nI 0 ∧ twoF t n sp o2 = nI 0 := by unfold okF nxF bdF oneF twoF; simp [h]
theorem oF_120 {t : Nat → Nat} {n sp : Nat} {bd : Bool} {o1 o2 : Int32} (h : lC t n sp = 120) : okF t n sp = (true) ∧ nxF t n sp = sp + 1 ∧ bdF t n sp bd = (bd) ∧ oneF t n sp o1 = nI 0 ∧ twoF t n sp o2 = nI 0 := by unfold okF nxF bdF oneF twoF; simp [h]
theorem oF_119 {t : Nat → Nat} {n sp : Nat} {bd : Bool} {o1 o2 : Int32} (h : lC t n sp = 119) : okF t n sp = ((nb t n (sp + 1) 24).isSome) ∧ nxF t n sp = nbS t n (sp + 1) 24 ∧ bdF t n sp bd = (nbB t n (sp + 1) 24 bd) ∧ oneF t n sp o1 = ov (nb t n (sp + 1) 24) ∧ twoF t n sp o2 = nI 0 := by unfold okF nxF bdF oneF twoF; simp [h]
theorem oF_100 {t : Nat → Nat} {n sp : Nat} {bd : Bool} {o1 o2 : Int32} (h : lC t n sp = 100) : okF t n sp = ((nb t n (sp + 1) 5).isSome) ∧ nxF t n sp = nbS t n (sp + 1) 5 ∧ bdF t n sp bd = (nbB t n (sp + 1) 5 bd) ∧ oneF t n sp o1 = ov (nb t n (sp + 1) 5) ∧ twoF t n sp o2 = nI 0 := by unfold okF nxF bdF oneF twoF; simp [h]
theorem oF_n {t : Nat → Nat} {n sp : Nat} {bd : Bool} {o1 o2 : Int32} (h : isL (lC t n sp) = false) : okF t n sp = false ∧ nxF t n sp = sp ∧ bdF t n sp bd = decide (sp < n) ∧ oneF t n sp o1 = o1 ∧ twoF t n sp o2 = o2 := by
  simp [isL] at h
  obtain ⟨h1, h2, h3, h4, h5, h6⟩ := h
  simp [okF, nxF, bdF, oneF, twoF, h1, h2, h3, h4, h5, h6]
theorem lC_cases {t : Nat → Nat} {n sp : Nat} : lC t n sp = 97 ∨ lC t n sp = 108 ∨ lC t n sp = 117 ∨ lC t n sp = 120 ∨ lC t n sp = 119 ∨ lC t n sp = 100 ∨ isL (lC t n sp) = false := by
  by_cases h : isL (lC t n sp) = true
  · simp [isL] at h
    omega
  · exact Or.inr (Or.inr (Or.inr (Or.inr (Or.inr (Or.inr (by simpa using h))))))
theorem aS_le {t : Nat → Nat} {n sp : Nat} (h : sp + 1 ≤ n) : sp < aS t n sp ∧ aS t n sp ≤ n := by
  have h1 := tkS_le (t := t) (lo := 48) (hi := 49) h
  have h2 := tkS_le (t := t) (lo := 58) (hi := 58) h1.2
  have h3 := nbS_le (t := t) (M := 20) h2.2
  unfold aS aS3 aS2
  (repeat' split) <;> omega
theorem lC_lt {t : Nat → Nat} {n sp v : Nat} (h : lC t n sp = v) (hv : v ≠ 0) : sp < n ∧ t sp = v := by
  unfold lC at h
  split at h
  · exact ⟨by assumption, h⟩
  · omega
theorem nxF_le {t : Nat → Nat} {n sp : Nat} (h : sp ≤ n) : sp ≤ nxF t n sp ∧ nxF t n sp ≤ n ∧ (okF t n sp = true → sp < nxF t n sp) := by
  rcases lC_cases (t := t) (n := n) (sp := sp) with c | c | c | c | c | c | c
  · obtain ⟨e1, e2, -⟩ := oF_97 (bd := false) (o1 := 0) (o2 := 0) c
    have := aS_le (t := t) (lC_lt c (by omega)).1
    rw [e2]; exact ⟨by omega, by omega, fun _ => by omega⟩
  · obtain ⟨e1, e2, -⟩ := oF_108 (bd := false) (o1 := 0) (o2 := 0) c
    have := tkS_le (t := t) (lo := 48) (hi := 49) (show sp + 1 ≤ n from (lC_lt c (by omega)).1)
    rw [e2]; unfold aS2; exact ⟨by omega, by omega, fun _ => by omega⟩
  · obtain ⟨e1, e2, -⟩ := oF_117 (bd := false) (o1 := 0) (o2 := 0) c
    have := (lC_lt c (by omega)).1
    rw [e2]; exact ⟨by omega, by omega, fun _ => by omega⟩
  · obtain ⟨e1, e2, -⟩ := oF_120 (bd := false) (o1 := 0) (o2 := 0) c
    have := (lC_lt c (by omega)).1
    rw [e2]; exact ⟨by omega, by omega, fun _ => by omega⟩
  · obtain ⟨e1, e2, -⟩ := oF_119 (bd := false) (o1 := 0) (o2 := 0) c
    have := nbS_le (t := t) (M := 24) (show sp + 1 ≤ n from (lC_lt c (by omega)).1)
    rw [e2]; exact ⟨by omega, by omega, fun _ => by omega⟩
  · obtain ⟨e1, e2, -⟩ := oF_100 (bd := false) (o1 := 0) (o2 := 0) c
    have := nbS_le (t := t) (M := 5) (show sp + 1 ≤ n from (lC_lt c (by omega)).1)
    rw [e2]; exact ⟨by omega, by omega, fun _ => by omega⟩
  · obtain ⟨e1, e2, -⟩ := oF_n (bd := false) (o1 := 0) (o2 := 0) c
    rw [e2]; exact ⟨by omega, by omega, fun q => by rw [e1] at q; cases q⟩
theorem tkB_ok {t : Nat → Nat} {n sp lo hi : Nat} {bd : Bool} (h : ¬ tk t n sp lo hi = none) : tkB t n sp lo hi bd = bd := tkB_y (Classical.not_not.mp fun q => h (tk_n q))
theorem nbB_ok {t : Nat → Nat} {n sp M : Nat} {bd : Bool} (h : ¬ nb t n sp M = none) : nbB t n sp M bd = bd := tkB_y (Classical.not_not.mp fun q => h (nb_n q).1)
theorem okF_bd {t : Nat → Nat} {n sp : Nat} {bd : Bool} (h : okF t n sp = true) : bdF t n sp bd = bd := by
  rcases lC_cases (t := t) (n := n) (sp := sp) with c | c | c | c | c | c | c
  · obtain ⟨e1, e2, e3, -⟩ := oF_97 (bd := bd) (o1 := 0) (o2 := 0) c
    rw [e1] at h
    simp only [aOk, Bool.and_eq_true, isSome_iff] at h
    rw [e3]
    unfold aB
    rw [if_neg h.1, if_neg h.2.1, nbB_ok h.2.2, tkB_ok h.2.1, tkB_ok h.1]
  · obtain ⟨e1, e2, e3, -⟩ := oF_108 (bd := bd) (o1 := 0) (o2 := 0) c
    rw [e1, isSome_iff] at h
    rw [e3, tkB_ok h]
  · rw [(oF_117 (bd := bd) (o1 := 0) (o2 := 0) c).2.2.1]
  · rw [(oF_120 (bd := bd) (o1 := 0) (o2 := 0) c).2.2.1]
  · obtain ⟨e1, e2, e3, -⟩ := oF_119 (bd := bd) (o1 := 0) (o2 := 0) c
    rw [e1, isSome_iff] at h
    rw [e3, nbB_ok h]
  · obtain ⟨e1, e2, e3, -⟩ := oF_100 (bd := bd) (o1 := 0) (o2 := 0) c
    rw [e1, isSome_iff] at h
    rw [e3, nbB_ok h]
  · rw [(oF_n (bd := bd) (o1 := 0) (o2 := 0) c).1] at h
    cases h
abbrev moF (t : Nat → Nat) (n sp : Nat) : Prop := tkP t n (nxF t n sp) 59 59
/-- the whole text: where the reading ends, whether at a wrong character, whether whole, how many orders -/
def pS (t : Nat → Nat) (n : Nat) : Nat → Nat → Nat
  | 0, sp => sp
  | k + 1, sp => if okF t n sp = true then (if moF t n sp then pS t n k (nxF t n sp + 1) else nxF t n sp) else nxF t n sp
def pB (t : Nat → Nat) (n : Nat) : Nat → Nat → Bool
  | 0, _ => false
  | k + 1, sp => if okF t n sp = true then (if moF t n sp then pB t n k (nxF t n sp + 1) else decide (nxF t n sp < n)) else bdF t n sp false
def pW (t : Nat → Nat) (n : Nat) : Nat → Nat → Bool
  | 0, _ => false
  | k + 1, sp => if okF t n sp = true then (if moF t n sp then pW t n k (nxF t n sp + 1) else decide (nxF t n sp = n)) else false
def pC (t : Nat → Nat) (n : Nat) : Nat → Nat → Nat
  | 0, _ => 0
  | k + 1, sp => if okF t n sp = true then (if moF t n sp then pC t n k (nxF t n sp + 1) + 1 else 1) else 0
theorem p_n {t : Nat → Nat} {n k sp : Nat} (h : okF t n sp = false) : pS t n (k + 1) sp = nxF t n sp ∧ pB t n (k + 1) sp = bdF t n sp false ∧ pW t n (k + 1) sp = false ∧ pC t n (k + 1) sp = 0 := by
  simp [pS, pB, pW, pC, h]
theorem p_e {t : Nat → Nat} {n k sp : Nat} (h : okF t n sp = true) (h2 : ¬ moF t n sp) : pS t n (k + 1) sp = nxF t n sp ∧ pB t n (k + 1) sp = decide (nxF t n sp < n) ∧ pW t n (k + 1) sp = decide (nxF t n sp = n) ∧ pC t n (k + 1) sp = 1 := by
  simp only [pS, pB, pW, pC, if_pos h, if_neg h2, and_self]
theorem p_m {t : Nat → Nat} {n k sp : Nat} (h : okF t n sp = true) (h2 : moF t n sp) : pS t n (k + 1) sp = pS t n k (nxF t n sp + 1) ∧ pB t n (k + 1) sp = pB t n k (nxF t n sp + 1) ∧ pW t n (k + 1) sp = pW t n k (nxF t n sp + 1) ∧ pC t n (k + 1) sp = pC t n k (nxF t n sp + 1) + 1 := by
  simp only [pS, pB, pW, pC, if_pos h, if_pos h2, and_self]

/-! one order, all orders: the class -/
theorem cD_97 {f : Nat → Int32} {x : Nat} : cnD f 97 x = decide (nn f (57 + 11 * x) < 10) := by simp [cnD]
theorem cD_108 {f : Nat → Int32} {x : Nat} : cnD f 108 x = fCan f x := by simp [cnD]
theorem cD_117 {f : Nat → Int32} {x : Nat} : cnD f 117 x = true := by simp [cnD]
theorem cD_120 {f : Nat → Int32} {x : Nat} : cnD f 120 x = decide (fRsn f = 0) := by simp [cnD]
theorem cD_119 {f : Nat → Int32} {x : Nat} : cnD f 119 x = true := by simp [cnD]
theorem cD_100 {f : Nat → Int32} {x : Nat} : cnD f 100 x = decide (x ≤ nn f 49) := by simp [cnD]
theorem dD_97 {f : Nat → Int32} {x y : Nat} : doD f 97 x y = fArr f x (nI y) := by simp [doD]
theorem dD_108 {f : Nat → Int32} {x y : Nat} : doD f 108 x y = fLod f x := by simp [doD]
theorem dD_117 {f : Nat → Int32} {x y : Nat} : doD f 117 x y = fUnl f := by simp [doD]
theorem dD_120 {f : Nat → Int32} {x y : Nat} : doD f 120 x y = fCrs f := by simp [doD]
theorem dD_119 {f : Nat → Int32} {x y : Nat} : doD f 119 x y = fPas f (nI x) := by simp [doD]
theorem dD_100 {f : Nat → Int32} {x y : Nat} : doD f 100 x y = fDrw f x := by simp [doD]
def exY (t : Nat → Nat) (n i : Nat) (f : Nat → Int32) : Nat → Int32 := if cnY t n i f = true then doY t n i f else f
theorem exY_y {t : Nat → Nat} {n i : Nat} {f : Nat → Int32} (h : cnY t n i f = true) : exY t n i f = doY t n i f := if_pos h
theorem exY_n {t : Nat → Nat} {n i : Nat} {f : Nat → Int32} (h : ¬ cnY t n i f = true) : exY t n i f = f := if_neg h
theorem ptS_all {t : Nat → Nat} {n k s i : Nat} (hW : pW t n k s = true) (hs : s ≤ n) (h1 : s ≤ i) (h2 : i < n) (hT : isT t i) : ptS t n i := by
  induction k generalizing s with
  | zero => cases hW
  | succ k ih =>
    have hp := ptS_of hW
    have o := hp.1
    have p := prt_x hs hp.1 hp.2
    have hle := (nxF_le (t := t) hs).2.1
    by_cases e : i = s
    · rw [e]; exact hp
    · by_cases q : i ≤ nxF t n s
      · rcases hT with hT | hT
        · omega
        · exact absurd hT (p.1 (i - 1) (by omega) (by omega))
      · by_cases m : moF t n s
        · rw [(p_m (k := k) o m).2.2.1] at hW
          exact ih hW (by have := m.1; omega) (by omega)
        · rw [(p_e (k := k) o m).2.2.1] at hW
          have hq : nxF t n s = n := by simpa using hW
          omega
theorem ptS_od {t : Nat → Nat} {n s : Nat} (hs : s ≤ n) (h : ptS t n s) : Odr (t s) (nuA t n (s + 1)) (nuA t n (s + 3)) := by
  have p := prt_x hs h.1 h.2
  have o := (od_ok (o1 := 0) (o2 := 0) h.1).2.2
  obtain ⟨-, -, hL, p1, p2, p3, p4⟩ := p
  rw [hL] at o
  unfold Odr at o ⊢
  rcases o with ⟨a, b⟩ | ⟨a, b⟩ | a | a | ⟨a, b⟩ | ⟨a, b⟩
  · rw [(p1 a).1, (p1 a).2]; exact .inl ⟨a, b⟩
  · rw [p2 a]; exact .inr (.inl ⟨a, b⟩)
  · exact .inr (.inr (.inl a))
  · exact .inr (.inr (.inr (.inl a)))
  · rw [p3 a]; exact .inr (.inr (.inr (.inr (.inl ⟨a, b⟩))))
  · rw [p4 a]; exact .inr (.inr (.inr (.inr (.inr ⟨a, b⟩))))

abbrev isT (t : Nat → Nat) (i : Nat) : Prop := i = 0 ∨ t (i - 1) = 59
abbrev cnY (t : Nat → Nat) (n i : Nat) (f : Nat → Int32) : Bool := cnD f (t i) (nuA t n (i + 1))
abbrev doY (t : Nat → Nat) (n i : Nat) (f : Nat → Int32) : Nat → Int32 := doD f (t i) (nuA t n (i + 1)) (nuA t n (i + 3))
/-- the class's way: from each place, what is done, and how many -/
def yF (t : Nat → Nat) (n : Nat) : Nat → Nat → (Nat → Int32) → (Nat → Int32)
  | 0, _, f => f
  | k + 1, i, f => if isT t i then (if cnY t n i f = true then yF t n k (i + 1) (doY t n i f) else f) else yF t n k (i + 1) f
def yC (t : Nat → Nat) (n : Nat) : Nat → Nat → (Nat → Int32) → Nat
  | 0, _, _ => 0
  | k + 1, i, f => if isT t i then (if cnY t n i f = true then yC t n k (i + 1) (doY t n i f) + 1 else 0) else yC t n k (i + 1) f
theorem y_no {t : Nat → Nat} {n i : Nat} {f : Nat → Int32} (h : i < n) (q : ¬ isT t i) : yF t n (n - i) i f = yF t n (n - (i + 1)) (i + 1) f ∧ yC t n (n - i) i f = yC t n (n - (i + 1)) (i + 1) f := by
  rw [show n - i = (n - (i + 1)) + 1 by omega]
  simp only [yF, yC, if_neg q, and_self]
theorem y_st {t : Nat → Nat} {n i : Nat} {f : Nat → Int32} (h : i < n) (q : isT t i) (c : ¬ cnY t n i f = true) : yF t n (n - i) i f = f ∧ yC t n (n - i) i f = 0 := by
  rw [show n - i = (n - (i + 1)) + 1 by omega]
  simp only [yF, yC, if_pos q, if_neg c, and_self]
theorem y_do {t : Nat → Nat} {n i : Nat} {f : Nat → Int32} (h : i < n) (q : isT t i) (c : cnY t n i f = true) : yF t n (n - i) i f = yF t n (n - (i + 1)) (i + 1) (doY t n i f) ∧ yC t n (n - i) i f = yC t n (n - (i + 1)) (i + 1) (doY t n i f) + 1 := by
  rw [show n - i = (n - (i + 1)) + 1 by omega]
  simp only [yF, yC, if_pos q, if_pos c, and_self]
theorem y_end {t : Nat → Nat} {n i : Nat} {f : Nat → Int32} (h : ¬ i < n) : yF t n (n - i) i f = f ∧ yC t n (n - i) i f = 0 := by
  rw [show n - i = 0 by omega]
  exact ⟨rfl, rfl⟩
theorem y_skip {t : Nat → Nat} {n d i : Nat} {f : Nat → Int32} (h : i + d ≤ n) (q : ∀ j, i ≤ j → j < i + d → ¬ isT t j) : yF t n (n - i) i f = yF t n (n - (i + d)) (i + d) f ∧ yC t n (n - i) i f = yC t n (n - (i + d)) (i + d) f := by
  induction d generalizing i with
  | zero => exact ⟨rfl, rfl⟩
  | succ d ih =>
    have a := y_no (f := f) (n := n) (by omega) (q i (Nat.le_refl _) (by omega))
    have b := ih (i := i + 1) (by omega) fun j h1 h2 => q j (by omega) (by omega)
    rw [a.1, a.2, b.1, b.2, show i + 1 + d = i + (d + 1) by omega]
    exact ⟨rfl, rfl⟩
theorem cn_do {f : Nat → Int32} {L x x' y y' : Nat} (h1 : L = 97 → x = x' ∧ y = y') (h2 : L = 108 → x = x') (h3 : L = 119 → x = x') (h4 : L = 100 → x = x') (hL : L = 97 ∨ L = 108 ∨ L = 117 ∨ L = 120 ∨ L = 119 ∨ L = 100) : cnD f L x = cnD f L x' ∧ doD f L x y = doD f L x' y' := by
  rcases hL with rfl | rfl | rfl | rfl | rfl | rfl
  · obtain ⟨rfl, rfl⟩ := h1 rfl; exact ⟨rfl, rfl⟩
  · obtain rfl := h2 rfl; constructor <;> simp [cnD, doD]
  · constructor <;> simp [cnD, doD]
  · constructor <;> simp [cnD, doD]
  · obtain rfl := h3 rfl; constructor <;> simp [cnD, doD]
  · obtain rfl := h4 rfl; constructor <;> simp [cnD, doD]
/-- where a part begins in a text that is right throughout -/
def ptS (t : Nat → Nat) (n s : Nat) : Prop := okF t n s = true ∧ ¬ (nxF t n s < n ∧ 48 ≤ t (nxF t n s) ∧ t (nxF t n s) ≤ 57)
theorem okF_L {t : Nat → Nat} {n s : Nat} (o : okF t n s = true) : lC t n s = 97 ∨ lC t n s = 108 ∨ lC t n s = 117 ∨ lC t n s = 120 ∨ lC t n s = 119 ∨ lC t n s = 100 := by
  rcases lC_cases (t := t) (n := n) (sp := s) with c | c | c | c | c | c | c
  · exact .inl c
  · exact .inr (.inl c)
  · exact .inr (.inr (.inl c))
  · exact .inr (.inr (.inr (.inl c)))
  · exact .inr (.inr (.inr (.inr (.inl c))))
  · exact .inr (.inr (.inr (.inr (.inr c))))
  · have := (oF_n (bd := false) (o1 := 0) (o2 := 0) c).1
    rw [this] at o; cases o
theorem ptS_e {t : Nat → Nat} {n s : Nat} {f : Nat → Int32} (hs : s ≤ n) (h : ptS t n s) : cnY t n s f = cnD f (lC t n s) (oX t n s) ∧ doY t n s f = doD f (lC t n s) (oX t n s) (oY t n s) := by
  have p := prt_x hs h.1 h.2
  have hL := okF_L h.1
  rw [p.2.2.1] at hL ⊢
  exact cn_do p.2.2.2.1 p.2.2.2.2.1 p.2.2.2.2.2.1 p.2.2.2.2.2.2 hL
/-- all parts from s on are right -/
theorem ptS_of {t : Nat → Nat} {n k s : Nat} (hW : pW t n k s = true) : ptS t n s := by
  cases k with
  | zero => cases hW
  | succ k =>
    by_cases o : okF t n s = true
    · refine ⟨o, fun q => ?_⟩
      by_cases m : moF t n s
      · have := m.2; omega
      · rw [(p_e (k := k) o m).2.2.1] at hW
        simp at hW
        omega
    · rw [(p_n (k := k) (by simpa using o)).2.2.1] at hW; cases hW
theorem y_x {t : Nat → Nat} {n k s : Nat} {f : Nat → Int32} (hW : pW t n k s = true) (hT : isT t s) (hs : s ≤ n) : yF t n (n - s) s f = xF t n k s f ∧ yC t n (n - s) s f = xC t n k s f := by
  induction k generalizing s f with
  | zero => cases hW
  | succ k ih =>
    have hp := ptS_of hW
    have o := hp.1
    have p := prt_x hs hp.1 hp.2
    have e := ptS_e (f := f) hs hp
    have hlt := (nxF_le hs).2.2 o
    have hle := (nxF_le (t := t) hs).2.1
    by_cases c : cnD f (lC t n s) (oX t n s) = true
    · have d := y_do (f := f) p.2.1 hT (by rw [e.1]; exact c)
      rw [d.1, d.2, e.2]
      by_cases m : moF t n s
      · have x := x_m (k := k) c m
        rw [x.1, x.2]
        have sk := y_skip (t := t) (n := n) (d := nxF t n s - s) (i := s + 1) (f := doD f (lC t n s) (oX t n s) (oY t n s)) (by have := m.1; omega) fun j h1 h2 q => by
          rcases q with q | q
          · omega
          · exact p.1 (j - 1) (by omega) (by omega) q
        rw [sk.1, sk.2, show s + 1 + (nxF t n s - s) = nxF t n s + 1 by omega]
        rw [(p_m (k := k) o m).2.2.1] at hW
        have r := ih (f := doD f (lC t n s) (oX t n s) (oY t n s)) hW (.inr (by have := m.2; show t (nxF t n s) = 59; omega)) (by have := m.1; omega)
        rw [r.1, r.2]
        exact ⟨rfl, rfl⟩
      · have x := x_e (k := k) c m
        rw [x.1, x.2]
        rw [(p_e (k := k) o m).2.2.1] at hW
        have hq : nxF t n s = n := by simpa using hW
        have sk := y_skip (t := t) (n := n) (d := n - (s + 1)) (i := s + 1) (f := doD f (lC t n s) (oX t n s) (oY t n s)) (by omega) fun j h1 h2 q => by
          rcases q with q | q
          · omega
          · exact p.1 (j - 1) (by omega) (by omega) q
        rw [sk.1, sk.2, show s + 1 + (n - (s + 1)) = n by omega, (y_end (Nat.lt_irrefl n)).1, (y_end (Nat.lt_irrefl n)).2]
        exact ⟨rfl, rfl⟩
    · have d := y_st (f := f) p.2.1 hT (by rw [e.1]; exact c)
      have x := x_n (t := t) (n := n) (k := k) c
      rw [d.1, d.2, x.1, x.2]
      exact ⟨rfl, rfl⟩

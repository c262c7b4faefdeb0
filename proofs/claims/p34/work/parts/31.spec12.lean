/-! how vehicles had best be parted: the class counts by the other bit -/
def clA (f : Nat → Int32) (s : Nat) : Nat → Int32
  | 0 => fLw f 0 - fLw f 1
  | k + 1 => clA f s k + (if bitL s k = 0 then f (57 + 11 * nn f 51 + 1 + k) else -f (57 + 11 * nn f 51 + 1 + k))
abbrev clP (f : Nat → Int32) (v s : Nat) : Prop := nn f 79 + v - lbC s v ≤ 4 ∧ nn f 88 + lbC s v ≤ 4
def clR (f : Nat → Int32) (v s : Nat) : Int32 := if clP f v s then absI (clA f s v) else -1
def mfold (r : Nat → Int32) : Nat → Int32
  | 0 => -1
  | s + 1 => if ¬ r s = -1 ∧ (mfold r s = -1 ∨ ¬ mfold r s ≤ r s) then r s else mfold r s
theorem lsB_m {f : Nat → Int32} {v : Nat} : ∀ n, lsB f v n = mfold (lbR f v) n := by
  intro n
  induction n with
  | zero => rfl
  | succ n ih =>
    show (if _ then _ else _) = (if _ then _ else _)
    rw [ih]
theorem mfold_ch {r : Nat → Int32} : ∀ n, (mfold r n = -1 ∧ ∀ s, s < n → r s = -1) ∨ (∃ s, s < n ∧ mfold r n = r s ∧ ¬ r s = -1 ∧ ∀ s', s' < n → ¬ r s' = -1 → r s ≤ r s') := by
  intro n
  induction n with
  | zero => exact Or.inl ⟨rfl, fun s h => absurd h (Nat.not_lt_zero s)⟩
  | succ n ih =>
    have e : mfold r (n + 1) = if ¬ r n = -1 ∧ (mfold r n = -1 ∨ ¬ mfold r n ≤ r n) then r n else mfold r n := rfl
    rcases ih with ⟨h1, h2⟩ | ⟨s, h1, h2, h3, h4⟩
    · by_cases q : r n = -1
      · refine Or.inl ⟨by rw [e, if_neg (fun z => z.1 q)]; exact h1, fun s hs => ?_⟩
        by_cases z : s = n
        · rw [z]; exact q
        · exact h2 s (by omega)
      · refine Or.inr ⟨n, by omega, by rw [e, if_pos ⟨q, Or.inl h1⟩], q, fun s' hs' hn => ?_⟩
        by_cases z : s' = n
        · rw [z]; exact Int32.le_refl _
        · exact absurd (h2 s' (by omega)) hn
    · by_cases q : r n = -1
      · refine Or.inr ⟨s, by omega, by rw [e, if_neg (fun z => z.1 q)]; exact h2, h3, fun s' hs' hn => ?_⟩
        by_cases z : s' = n
        · rw [z] at hn; exact absurd q hn
        · exact h4 s' (by omega) hn
      · by_cases w : mfold r n ≤ r n
        · refine Or.inr ⟨s, by omega, ?_, h3, fun s' hs' hn => ?_⟩
          · rw [e, if_neg (fun z => z.2.elim (fun y => h3 (h2 ▸ y)) (fun y => y w))]; exact h2
          · by_cases z : s' = n
            · rw [z, ← h2]; exact w
            · exact h4 s' (by omega) hn
        · refine Or.inr ⟨n, by omega, by rw [e, if_pos ⟨q, Or.inr w⟩], q, fun s' hs' hn => ?_⟩
          by_cases z : s' = n
          · rw [z]; exact Int32.le_refl _
          · refine Int32.le_trans ?_ (h4 s' (by omega) hn)
            rw [← h2]
            exact Int32.le_of_lt (Int32.not_le.mp w)
theorem mfold_rev {r r' : Nat → Int32} {n : Nat} (h : ∀ s, s < n → r' s = r (n - 1 - s)) : mfold r' n = mfold r n := by
  have h' : ∀ s, s < n → r s = r' (n - 1 - s) := fun s hs => by
    rw [h _ (by omega)]
    congr 1
    omega
  rcases mfold_ch (r := r) n with ⟨a1, a2⟩ | ⟨s, a1, a2, a3, a4⟩ <;> rcases mfold_ch (r := r') n with ⟨b1, b2'⟩ | ⟨u, b1, b2', b3, b4⟩
  · rw [a1, b1]
  · exact absurd ((h u b1).trans (a2 _ (by omega))) b3
  · exact absurd ((h' s a1).trans (b2' _ (by omega))) a3
  · rw [a2, b2']
    have e1 := h u b1
    have e2 := h' s a1
    have g1 := a4 (n - 1 - u) (by omega) (by rw [← e1]; exact b3)
    have g2 := b4 (n - 1 - s) (by omega) (by rw [← e2]; exact a3)
    rw [← e1] at g1
    rw [← e2] at g2
    exact Int32.le_antisymm g2 g1
theorem bit_rev : ∀ v, v < 9 → ∀ s, s < 2 ^ v → ∀ k, k < v → bitL (2 ^ v - 1 - s) k = 1 - bitL s k := by decide +kernel
theorem lbC_8 : ∀ v, v < 9 → ∀ s, s < 2 ^ v → lbC s 8 = lbC s v := by decide +kernel
theorem lbC_rev {v s : Nat} (hv : v < 9) (hs : s < 2 ^ v) : ∀ k, k ≤ v → lbC (2 ^ v - 1 - s) k + lbC s k = k := by
  intro k
  induction k with
  | zero => intro _; rfl
  | succ k ih =>
    intro hk
    have := ih (by omega)
    have hb := bit_rev v hv s hs k (by omega)
    have hl := bitL_lt (s := s) (k := k)
    show lbC (2 ^ v - 1 - s) k + (if bitL (2 ^ v - 1 - s) k = 1 then 1 else 0) + (lbC s k + (if bitL s k = 1 then 1 else 0)) = k + 1
    rw [hb]
    (repeat' split) <;> omega
theorem lbA_rev {f : Nat → Int32} {v s : Nat} (hv : v < 9) (hs : s < 2 ^ v) : ∀ k, k ≤ v → clA f s k = lbA f (2 ^ v - 1 - s) k := by
  intro k
  induction k with
  | zero => intro _; rfl
  | succ k ih =>
    intro hk
    have hb := bit_rev v hv s hs k (by omega)
    have hl := bitL_lt (s := s) (k := k)
    show clA f s k + _ = lbA f _ k + _
    rw [ih (by omega), hb]
    by_cases q : bitL s k = 0
    · rw [if_pos q, if_pos (by omega)]
    · rw [if_neg q, if_neg (by omega)]
theorem clR_rev {f : Nat → Int32} {v s : Nat} (hv : v < 9) (hs : s < 2 ^ v) : clR f v s = lbR f v (2 ^ v - 1 - s) := by
  have h1 := lbC_rev hv hs v (Nat.le_refl v)
  have h2 := lbA_rev (f := f) hv hs v (Nat.le_refl v)
  unfold clR lbR clP
  rw [h2]
  by_cases q : nn f 79 + v - lbC s v ≤ 4 ∧ nn f 88 + lbC s v ≤ 4
  · rw [if_pos q, if_pos (by omega)]
  · rw [if_neg q, if_neg (by omega)]
theorem clA_b {B : Nat} {f : Nat → Int32} (h : Okf B f) {s v : Nat} (hv : v ≤ nn f (57 + 11 * nn f 51)) : ∀ k, k ≤ v → ∃ X Y, X ≤ 80 + 20 * k ∧ Y ≤ 80 + 20 * k ∧ clA f s k = nI X - nI Y := by
  intro k
  induction k with
  | zero =>
    intro _
    obtain ⟨x, h1, h2⟩ := lw_b h (a := 0) (by omega)
    obtain ⟨y, h3, h4⟩ := lw_b h (a := 1) (by omega)
    exact ⟨x, y, by omega, by omega, by show fLw f 0 - fLw f 1 = _; rw [h2, h4]⟩
  | succ k ih =>
    intro hk
    obtain ⟨X, Y, h1, h2, h3⟩ := ih (by omega)
    have h51 := h.2.2.1.2.2.2.2.1.2
    obtain ⟨w1, w2⟩ := (h.2.2.2.1 (nn f 51) (by omega)).2 k (by omega)
    by_cases q : bitL s k = 0
    · refine ⟨X + nn f (57 + 11 * nn f 51 + 1 + k), Y, by omega, by omega, ?_⟩
      show clA f s k + (if bitL s k = 0 then _ else _) = _
      rw [if_pos q, h3, w1, ← nI_add, Int32.sub_eq_add_neg, Int32.sub_eq_add_neg, Int32.add_assoc, Int32.add_assoc, Int32.add_comm (-nI Y), ← w1]
    · refine ⟨X, Y + nn f (57 + 11 * nn f 51 + 1 + k), by omega, by omega, ?_⟩
      show clA f s k + (if bitL s k = 0 then _ else _) = _
      rw [if_neg q, h3, w1, ← nI_add, Int32.sub_eq_add_neg, Int32.sub_eq_add_neg, Int32.neg_add, Int32.sub_eq_add_neg, Int32.add_assoc, ← w1]
theorem clA_n {B : Nat} {f : Nat → Int32} (h : Okf B f) {s v : Nat} (hv : v ≤ nn f (57 + 11 * nn f 51)) (hv8 : v ≤ 8) : ¬ absI (clA f s v) = -1 := by
  obtain ⟨X, Y, h1, h2, h3⟩ := clA_b h hv (s := s) v (Nat.le_refl v)
  obtain ⟨d, d1, d2⟩ := abs_b (x := X) (y := Y) (by omega) (by omega)
  rw [h3, d2]
  exact nI_ne_m1 (by omega)
theorem ls_eq {f : Nat → Int32} {v : Nat} (hv : v ≤ 8) : mfold (clR f v) (2 ^ v) = lsB f v (2 ^ v) := by
  rw [lsB_m]
  exact mfold_rev (fun s hs => clR_rev (by omega) hs)
theorem mf_y {r : Nat → Int32} {s : Nat} (h1 : ¬ r s = -1) (h2 : mfold r s = -1 ∨ ¬ mfold r s ≤ r s) : mfold r (s + 1) = r s := if_pos ⟨h1, h2⟩
theorem mf_n {r : Nat → Int32} {s : Nat} (h : r s = -1 ∨ (¬ mfold r s = -1 ∧ mfold r s ≤ r s)) : mfold r (s + 1) = mfold r s := if_neg (fun q => h.elim (fun z => q.1 z) (fun z => q.2.elim z.1 (fun w => w z.2)))
/-! lines' rows under the other changes -/
theorem cpl_crs {f w0 w1 w2 d2 w3 d3 : Nat → Int32} (hs : Shp f) (h : Cpl f w0 w1 w2 d2 w3 d3) : Cpl (fCrs f) w0 w1 w2 d2 w3 d3 := cpl_c (fun j _ hj => crs_o (by omega)) hs h
theorem cpl_drw {f w0 w1 w2 d2 w3 d3 : Nat → Int32} {n : Nat} (hs : Shp f) (h : Cpl f w0 w1 w2 d2 w3 d3) : Cpl (fDrw f n) w0 w1 w2 d2 w3 d3 := cpl_c (fun j _ hj => drw_o (by omega)) hs h
theorem cpl_pas {f w0 w1 w2 d2 w3 d3 : Nat → Int32} {n : Int32} (hs : Shp f) (h : Cpl f w0 w1 w2 d2 w3 d3) : Cpl (fPas f n) w0 w1 w2 d2 w3 d3 := cpl_c (fun j _ hj => pas_o (by omega) (by omega)) hs h
/-- the line of a bank loses its first, a lane has one more: one way for each of four -/
theorem cpl_lod {f w0 w1 w2 d2 w3 d3 : Nat → Int32} (hs : Shp f) (h : Cpl f w0 w1 w2 d2 w3 d3) {b q : Nat} (hq : q < 2) (hb : nn f 51 = b) (hone : 0 < nn f (57 + 11 * b)) (hroom : nn f (79 + 9 * q) < 4) :
    Cpl (fLod f q) (if b = 0 then shf w0 (nn f 57) else w0) (if b = 1 then shf w1 (nn f 68) else w1) (if q = 0 then upd w2 (nn f 79) (f (fAt f + 1)) else w2) (if q = 0 then upd d2 (nn f 79) (nI b) else d2) (if q = 1 then upd w3 (nn f 88) (f (fAt f + 1)) else w3) (if q = 1 then upd d3 (nn f 88) (nI b) else d3) := by
  have q0 : nn f 57 ≤ 10 := (hs.2.1 0 (by omega)).2
  have q1 : nn f 68 ≤ 10 := (hs.2.1 1 (by omega)).2
  have n0 : nn f 79 ≤ 4 := (hs.1 0 (by omega)).2
  have n1 : nn f 88 ≤ 4 := (hs.1 1 (by omega)).2
  obtain ⟨h51, h51b⟩ := hs.2.2.1
  have hat : fAt f = 57 + 11 * b := by show 57 + 11 * nn f 51 = _; rw [hb]
  have hn' := lod_n (f := f) (a := q) (b := b) hs hq hb hone
  have hl' := lod_l (f := f) (a := q) hs hq
  have o := fun (j : Nat) (g1 : j < fAt f ∨ fAt f + 10 < j) (g2 : j ≠ 79 + 9 * q) (g3 : j ≠ 79 + 9 * q + 1 + 2 * nn f (79 + 9 * q)) (g4 : j ≠ 79 + 9 * q + 2 + 2 * nn f (79 + 9 * q)) => lod_f (f := f) (a := q) (j := j) hs g1 g2 g3 g4
  have bk : ∀ j, j + 1 < nn f (57 + 11 * b) → fLod f q (57 + 11 * b + 1 + j) = f (57 + 11 * b + 1 + (j + 1)) := by
    intro j hj
    have hqb := (hs.2.1 b (by omega)).2
    rw [← hat]
    unfold fLod
    rw [pk_un (by omega), pk_un (by omega), pk_un (by omega)]
    unfold fL1
    rw [pk_un (by omega)]
    unfold shW
    rw [if_pos (by omega), pk_un (by omega)]
    congr 1
  have lw : fLod f q (79 + 9 * q + 1 + 2 * nn f (79 + 9 * q)) = f (fAt f + 1) := by
    unfold fLod
    rw [pk_un (by omega), pk_un (by omega)]
    exact pk_us
  have ld : fLod f q (79 + 9 * q + 2 + 2 * nn f (79 + 9 * q)) = nI b := by
    unfold fLod
    rw [pk_un (by omega), pk_us, h51, hb]
  obtain ⟨c1, c2, c3, c4⟩ := h
  refine ⟨fun j hj => ?_, fun j hj => ?_, fun j hj => ?_, fun j hj => ?_⟩
  · by_cases z : b = 0
    · subst z
      rw [if_pos rfl]
      replace hn' : nn (fLod f q) 57 = nn f 57 - 1 := hn'
      rw [hn'] at hj
      have e := bk j (by show j + 1 < nn f 57; omega)
      unfold shf
      rw [if_pos (by omega), c1 (j + 1) (by omega), show 58 + j = 57 + 11 * 0 + 1 + j by omega, e]
    · rw [if_neg z]
      rw [nn_c (o 57 (by omega) (by omega) (by omega) (by omega))] at hj
      rw [o _ (by omega) (by omega) (by omega) (by omega)]; exact c1 j hj
  · by_cases z : b = 1
    · subst z
      rw [if_pos rfl]
      replace hn' : nn (fLod f q) 68 = nn f 68 - 1 := hn'
      rw [hn'] at hj
      have e := bk j (by show j + 1 < nn f 68; omega)
      unfold shf
      rw [if_pos (by omega), c2 (j + 1) (by omega), show 69 + j = 57 + 11 * 1 + 1 + j by omega, e]
    · rw [if_neg z]
      rw [nn_c (o 68 (by omega) (by omega) (by omega) (by omega))] at hj
      rw [o _ (by omega) (by omega) (by omega) (by omega)]; exact c2 j hj
  · by_cases z : q = 0
    · subst z
      rw [if_pos rfl, if_pos rfl]
      replace hl' : nn (fLod f 0) 79 = nn f 79 + 1 := hl'
      rw [hl'] at hj
      by_cases w : j = nn f 79
      · subst w
        rw [pk_us, pk_us]
        exact ⟨lw.symm, ld.symm⟩
      · rw [pk_un w, pk_un w, o _ (by omega) (by omega) (by show _ ≠ 80 + 2 * nn f 79; omega) (by show _ ≠ 81 + 2 * nn f 79; omega), o _ (by omega) (by omega) (by show _ ≠ 80 + 2 * nn f 79; omega) (by show _ ≠ 81 + 2 * nn f 79; omega)]
        exact c3 j (by omega)
    · rw [if_neg z, if_neg z]
      rw [nn_c (o 79 (by omega) (by omega) (by omega) (by omega))] at hj
      rw [o _ (by omega) (by omega) (by omega) (by omega), o _ (by omega) (by omega) (by omega) (by omega)]; exact c3 j hj
  · by_cases z : q = 1
    · subst z
      rw [if_pos rfl, if_pos rfl]
      replace hl' : nn (fLod f 1) 88 = nn f 88 + 1 := hl'
      rw [hl'] at hj
      by_cases w : j = nn f 88
      · subst w
        rw [pk_us, pk_us]
        exact ⟨lw.symm, ld.symm⟩
      · rw [pk_un w, pk_un w, o _ (by omega) (by omega) (by show _ ≠ 89 + 2 * nn f 88; omega) (by show _ ≠ 90 + 2 * nn f 88; omega), o _ (by omega) (by omega) (by show _ ≠ 89 + 2 * nn f 88; omega) (by show _ ≠ 90 + 2 * nn f 88; omega)]
        exact c4 j (by omega)
    · rw [if_neg z, if_neg z]
      have hr : nn f 79 < 4 := by
        have : q = 0 := by omega
        subst this
        exact hroom
      have : q = 0 := by omega
      subst this
      rw [nn_c (o 88 (by omega) (by omega) (by show _ ≠ 80 + 2 * nn f 79; omega) (by show _ ≠ 81 + 2 * nn f 79; omega))] at hj
      rw [o _ (by omega) (by omega) (by show _ ≠ 80 + 2 * nn f 79; omega) (by show _ ≠ 81 + 2 * nn f 79; omega), o _ (by omega) (by omega) (by show _ ≠ 80 + 2 * nn f 79; omega) (by show _ ≠ 81 + 2 * nn f 79; omega)]; exact c4 j hj

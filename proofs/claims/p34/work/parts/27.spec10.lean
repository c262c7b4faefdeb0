/-! a State's lines over the row -/
def Cpl (f w0 w1 w2 d2 w3 d3 : Nat → Int32) : Prop := (∀ j, j < nn f 57 → w0 j = f (58 + j)) ∧ (∀ j, j < nn f 68 → w1 j = f (69 + j)) ∧ (∀ j, j < nn f 79 → w2 j = f (80 + 2 * j) ∧ d2 j = f (81 + 2 * j)) ∧ (∀ j, j < nn f 88 → w3 j = f (89 + 2 * j) ∧ d3 j = f (90 + 2 * j))
/-- rows that agree on what the lines are -/
def Ln9 (g f : Nat → Int32) : Prop := ∀ j, j < 97 → 57 ≤ j → g j = f j
theorem cpl_c {g f w0 w1 w2 d2 w3 d3 : Nat → Int32} (h : Ln9 g f) (hs : Shp f) (hc : Cpl f w0 w1 w2 d2 w3 d3) : Cpl g w0 w1 w2 d2 w3 d3 := by
  have q0 : nn f 57 ≤ 10 := (hs.2.1 0 (by omega)).2
  have q1 : nn f 68 ≤ 10 := (hs.2.1 1 (by omega)).2
  have n0 : nn f 79 ≤ 4 := (hs.1 0 (by omega)).2
  have n1 : nn f 88 ≤ 4 := (hs.1 1 (by omega)).2
  obtain ⟨c1, c2, c3, c4⟩ := hc
  refine ⟨fun j hj => ?_, fun j hj => ?_, fun j hj => ?_, fun j hj => ?_⟩
  · rw [nn_c (h 57 (by omega) (by omega))] at hj
    rw [h _ (by omega) (by omega)]; exact c1 j hj
  · rw [nn_c (h 68 (by omega) (by omega))] at hj
    rw [h _ (by omega) (by omega)]; exact c2 j hj
  · rw [nn_c (h 79 (by omega) (by omega))] at hj
    rw [h _ (by omega) (by omega), h _ (by omega) (by omega)]; exact c3 j hj
  · rw [nn_c (h 88 (by omega) (by omega))] at hj
    rw [h _ (by omega) (by omega), h _ (by omega) (by omega)]; exact c4 j hj
theorem lw9_c {g f : Nat → Int32} (h : Ln9 g f) (hs : Shp f) {a : Nat} (ha : a < 2) : fLw g a = fLw f a := by
  unfold fLw
  have h1 := hs.1 a ha
  rw [nn_c (h _ (by omega) (by omega))]
  exact sumI_c (fun j hj => h _ (by omega) (by omega))
theorem wt_k {f w0 w1 w2 d2 w3 d3 : Nat → Int32} (hc : Cpl f w0 w1 w2 d2 w3 d3) {j : Nat} : (j < nn f 57 → w0 j = f (57 + 11 * 0 + 1 + j)) ∧ (j < nn f 68 → w1 j = f (57 + 11 * 1 + 1 + j)) := by
  refine ⟨fun h => ?_, fun h => ?_⟩
  · rw [hc.1 j h]
  · rw [hc.2.1 j h]

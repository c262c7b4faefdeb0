theorem mf_min {r : Nat → Int32} {i : Nat} {x y : Int32} (hx : x = mfold r i) (hr : r i = y) (hn : ¬ r i = -1) (hc : ¬ x = -1) : (if y < x then y else x) = mfold r (i + 1) := by
  by_cases h : x ≤ y
  · rw [if_neg (Int32.not_lt.mpr h), mf_n (Or.inr ⟨by rw [← hx]; exact hc, by rw [← hx, hr]; exact h⟩), hx]
  · rw [if_pos (Int32.not_le.mp h), mf_y hn (Or.inr (by rw [← hx, hr]; exact h)), hr]

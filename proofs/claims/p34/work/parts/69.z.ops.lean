/-! the law's cases by their numbers -/
theorem in_ex {lo hi : Nat} {x : Int32} (h1 : hi < 2147483648) (h : nI lo ≤ x ∧ x ≤ nI hi) (h0 : lo ≤ hi) : ∃ n, lo ≤ n ∧ n ≤ hi ∧ x = nI n := by
  obtain ⟨a, b⟩ := h
  rw [Int32.le_iff_toInt_le, show (nI lo).toInt = (lo : Int) from nI_toInt (by omega)] at a
  rw [Int32.le_iff_toInt_le, show (nI hi).toInt = (hi : Int) from nI_toInt h1] at b
  refine ⟨x.toInt.toNat, by omega, by omega, ?_⟩
  rw [← Int32.toInt_inj, nI_toInt (by omega)]
  omega
theorem nn_ex {x : Int32} (h : 0 ≤ x) : ∃ n, n < 2147483648 ∧ x = nI n := by
  rw [Int32.le_iff_toInt_le] at h
  have h0 : (0 : Int32).toInt = 0 := by decide
  have h1 := x.toInt_lt
  refine ⟨x.toInt.toNat, by omega, ?_⟩
  rw [← Int32.toInt_inj, nI_toInt (by omega)]
  omega
theorem st_lt {s0 : Nat} (h : s0 < 3) : stHi s0 < 2147483648 ∧ stLo s0 ≤ stHi s0 := by
  rcases (show s0 = 0 ∨ s0 = 1 ∨ s0 = 2 by omega) with rfl | rfl | rfl <;> decide

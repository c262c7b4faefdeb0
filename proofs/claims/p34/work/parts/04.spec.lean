/-! words of the state as one row of 97 numbers (the reference's layout) -/
def nn (f : Nat → Int32) (k : Nat) : Nat := (f k).toNatClampNeg
def sumI (g : Nat → Int32) : Nat → Int32
  | 0 => nI 0
  | k + 1 => sumI g k + g k
def maxI (g : Nat → Int32) : Nat → Int32
  | 0 => nI 0
  | k + 1 => if g k ≤ maxI g k then maxI g k else g k
def absI (x : Int32) : Int32 := if 0 ≤ x then x else -x
/-- counts are small numbers, the bank is 0 or 1, hours don't run over -/
def Shp (f : Nat → Int32) : Prop :=
  (∀ a, a < 2 → f (79 + 9 * a) = nI (nn f (79 + 9 * a)) ∧ nn f (79 + 9 * a) ≤ 4) ∧
  (∀ b, b < 2 → f (57 + 11 * b) = nI (nn f (57 + 11 * b)) ∧ nn f (57 + 11 * b) ≤ 10) ∧
  (f 51 = nI (nn f 51) ∧ nn f 51 < 2) ∧ (f 50 = nI (nn f 50) ∧ nn f 50 < 1000000000) ∧ (f 2 = nI (nn f 2) ∧ 1 ≤ nn f 2 ∧ nn f 2 ≤ 50)
def fLw (f : Nat → Int32) (a : Nat) : Int32 := sumI (fun j => f (79 + 9 * a + 1 + 2 * j + 0)) (nn f (79 + 9 * a))
def fLst (f : Nat → Int32) : Int32 := absI (fLw f 0 - fLw f 1)
def fStr (f : Nat → Int32) (k : Nat) : Int32 := if 0 ≤ f 0 - f (27 + k) / nI 2 then f 0 - f (27 + k) / nI 2 else nI 0
def fFar (k : Nat) : Nat := if 20 - k ≤ k + 1 then 20 - k else k + 1
def fTb0 (f : Nat → Int32) (k : Nat) (cu li wt : Int32) : Int32 := cu * nI (fFar k) / nI 10 * (nI 20 + wt) / nI 10 + nI 3 * li - nI 4 * f 47
def fTby (f : Nat → Int32) (k : Nat) (cu li wt : Int32) : Int32 := if 0 ≤ fTb0 f k cu li wt then fTb0 f k cu li wt else nI 0
def fCur (f : Nat → Int32) (ahead : Nat) : Int32 := f (3 + (nn f 50 + ahead) % 24)
def fTen (f : Nat → Int32) (k : Nat) : Int32 := fTby f k (f (3 + nn f 50 % 24)) (fLst f) (fLw f 0 + fLw f 1)
def fGre (f : Nat → Int32) (c li wt : Int32) : Int32 := maxI (fun k => fTby f k c li wt) 20
def fBears (f : Nat → Int32) : Nat → Bool
  | 0 => true
  | k + 1 => fBears f k && decide (fTen f k ≤ fStr f k)
def fRsn (f : Nat → Int32) : Int32 := if fLst f ≤ f 1 then (if f 47 ≤ nI 25 then (if fBears f 20 = true then nI 0 else nI 3) else nI 2) else nI 1
theorem i_lt (a b : Int32) : (a < b) = ¬ (b ≤ a) := propext Int32.not_le.symm
/-! copies of a row's part -/
theorem cpy_0 {f g : Nat → Int32} {sp dp : Nat} : va_cpy f g sp dp 0 = g := by
  funext j
  simp [va_cpy]
  omega
theorem cpy_s {f g : Nat → Int32} {sp dp n : Nat} : upd (va_cpy f g sp dp n) (dp + n) (f (sp + n)) = va_cpy f g sp dp (n + 1) := by
  funext j
  by_cases h : j = dp + n
  · subst h
    rw [pk_us, pk_cpy_in (by omega) (by omega)]
    congr 1
    omega
  · rw [pk_un h]
    by_cases h2 : dp ≤ j ∧ j < dp + n
    · rw [pk_cpy_in h2.1 h2.2, pk_cpy_in h2.1 (by omega)]
    · rw [pk_cpy_out (by omega), pk_cpy_out (by omega)]
theorem cpy_hi {f g : Nat → Int32} {sp dp n j : Nat} (h : dp + n ≤ j) : va_cpy f g sp dp n j = g j := pk_cpy_out (Or.inr h)
theorem cpy_z {f : Nat → Int32} {n : Nat} : upd (va_cpy f f 97 0 n) n (f (n + 97)) = va_cpy f f 97 0 (n + 1) := by
  have h := cpy_s (f := f) (g := f) (sp := 97) (dp := 0) (n := n)
  rw [Nat.zero_add, Nat.add_comm 97 n] at h
  exact h
/-! the reference's saved states: n of them, one behind the other -/
def svN (n : Nat) : Nat := if n = 6 then 5 else n
def svP (n : Nat) (pa : Nat → Int32) : Nat → Int32 := if n = 6 then va_cpy pa pa 97 0 485 else pa
theorem svN_le {n : Nat} (h : n ≤ 6) : svN n ≤ 5 := by unfold svN; split <;> omega
theorem svN_6 {n : Nat} (h : n = 6) : svN n = n - 1 := by unfold svN; rw [if_pos h]; omega
theorem svP_6 {n : Nat} {pa : Nat → Int32} (h : n = 6) : svP n pa = va_cpy pa pa 97 0 485 := by unfold svP; rw [if_pos h]
theorem svN_n {n : Nat} (h : ¬ n = 6) : svN n = n := by unfold svN; rw [if_neg h]
theorem svP_n {n : Nat} {pa : Nat → Int32} (h : ¬ n = 6) : svP n pa = pa := by unfold svP; rw [if_neg h]
def fPas (f : Nat → Int32) (h : Int32) : Nat → Int32 := upd (upd f 50 (f 50 + h)) 56 (f 56 + h * (f (57 + (11 * 0)) + f (57 + (11 * 1))))
def svM (n : Nat) : Nat := svN n + 1
def svQ (f : Nat → Int32) (n : Nat) (pa : Nat → Int32) : Nat → Int32 := va_cpy f (svP n pa) 0 (97 * svN n) 97
theorem svM_le {n : Nat} (h : n ≤ 6) : svM n ≤ 6 := Nat.succ_le_succ (svN_le h)
theorem inN {lo v hi : Nat} (h1 : lo ≤ v) (h2 : v ≤ hi) (h3 : hi < 2147483648) : nI lo ≤ nI v ∧ nI v ≤ nI hi := ⟨nI_le h1 (by omega), nI_le h2 h3⟩

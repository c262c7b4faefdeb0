def stLo (s : Nat) : Nat := if s = 0 then 50 else if s = 1 then 0 else 1
def stHi (s : Nat) : Nat := if s = 0 then 999 else if s = 1 then 80 else 50
def feR (t : Nat → Nat) (n : Nat) : Nat := if pB t n (n + 1) 0 = true then pS t n (n + 1) 0 else n
def blk (pa : Nat → Int32) (i : Nat) : Nat → Int32 := fun k => pa (97 * i + k)
theorem pC_le {t : Nat → Nat} {n k sp : Nat} : pC t n k sp ≤ k := by
  induction k generalizing sp with
  | zero => exact Nat.le_refl _
  | succ k ih =>
    have := ih (sp := nxF t n sp + 1)
    unfold pC
    (repeat' split) <;> omega
theorem cpyB {pa g : Nat → Int32} {i : Nat} : ∀ j, j < 97 → va_cpy pa g (97 * i) 0 97 j = blk pa i j := fun j hj => by
  rw [pk_cpy_in (by omega) (by omega)]
  unfold blk
  congr 1

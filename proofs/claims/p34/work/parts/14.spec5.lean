/-! orders as texts: t the characters, n how many, sp a place -/
def ov : Option Nat → Int32
  | none => -1
  | some v => nI v
theorem ov_n : ov none = -1 := rfl
theorem ov_s {v : Nat} : ov (some v) = nI v := rfl
theorem nI_ne_m1 {v : Nat} (h : v < 2147483648) : ¬ nI v = -1 := fun q => nI_pos h (by rw [q]; decide +kernel)
theorem ov_m1 {o : Option Nat} (h : ∀ v, o = some v → v < 2147483648) : ov o = -1 ↔ o = none := by
  cases o with
  | none => exact ⟨fun _ => rfl, fun _ => rfl⟩
  | some v => exact ⟨fun q => absurd q (nI_ne_m1 (h v rfl)), fun q => nomatch q⟩
abbrev tkP (t : Nat → Nat) (n sp lo hi : Nat) : Prop := sp < n ∧ lo ≤ t sp ∧ t sp ≤ hi
def tk (t : Nat → Nat) (n sp lo hi : Nat) : Option Nat := if tkP t n sp lo hi then some (t sp - lo) else none
def tkS (t : Nat → Nat) (n sp lo hi : Nat) : Nat := if tkP t n sp lo hi then sp + 1 else sp
def tkB (t : Nat → Nat) (n sp lo hi : Nat) (bd : Bool) : Bool := if tkP t n sp lo hi then bd else bd || decide (sp < n)
theorem tk_y {t : Nat → Nat} {n sp lo hi : Nat} (h : tkP t n sp lo hi) : tk t n sp lo hi = some (t sp - lo) := if_pos h
theorem tk_n {t : Nat → Nat} {n sp lo hi : Nat} (h : ¬ tkP t n sp lo hi) : tk t n sp lo hi = none := if_neg h
theorem tkS_y {t : Nat → Nat} {n sp lo hi : Nat} (h : tkP t n sp lo hi) : tkS t n sp lo hi = sp + 1 := if_pos h
theorem tkS_n {t : Nat → Nat} {n sp lo hi : Nat} (h : ¬ tkP t n sp lo hi) : tkS t n sp lo hi = sp := if_neg h
theorem tkB_y {t : Nat → Nat} {n sp lo hi : Nat} {bd : Bool} (h : tkP t n sp lo hi) : tkB t n sp lo hi bd = bd := if_pos h
theorem tkB_n {t : Nat → Nat} {n sp lo hi : Nat} {bd : Bool} (h : ¬ tkP t n sp lo hi) : tkB t n sp lo hi bd = (bd || decide (sp < n)) := if_neg h
theorem tk_none {t : Nat → Nat} {n sp lo hi : Nat} : tk t n sp lo hi = none ↔ ¬ tkP t n sp lo hi := by
  unfold tk
  split <;> simp_all
theorem tkS_le {t : Nat → Nat} {n sp lo hi : Nat} (h : sp ≤ n) : sp ≤ tkS t n sp lo hi ∧ tkS t n sp lo hi ≤ n := by
  unfold tkS tkP
  split <;> omega
theorem tk_lt {t : Nat → Nat} {n sp lo hi : Nat} (h : hi < 1000) : ∀ v, tk t n sp lo hi = some v → v < 1000 := by
  intro v hv
  unfold tk at hv
  split at hv
  · injection hv with e; omega
  · cases hv
/-- the characters as small numbers -/
def Tx (tx : Nat → Int32) (n : Nat) : Prop := n ≤ 60 ∧ ∀ k, k < n → tx k = nI (nn tx k) ∧ nn tx k < 127
theorem inN_iff {lo v hi : Nat} (h1 : lo < 2147483648) (h2 : v < 2147483648) (h3 : hi < 2147483648) : (nI lo ≤ nI v ∧ nI v ≤ nI hi) ↔ (lo ≤ v ∧ v ≤ hi) := by
  rw [nI_leI h1 h2, nI_leI h2 h3]
def hiM (M : Nat) : Nat := if M < 10 then 48 + M else 57
abbrev nbP (t : Nat → Nat) (n sp v M : Nat) : Prop := tkP t n sp 48 57 ∧ 10 * v + t sp - 48 ≤ M
def nb (t : Nat → Nat) (n sp M : Nat) : Option Nat := if tkP t n sp 49 (hiM M) then (if nbP t n (sp + 1) (t sp - 49 + 1) M then some (10 * (t sp - 49 + 1) + t (sp + 1) - 48) else some (t sp - 49 + 1)) else none
def nbS (t : Nat → Nat) (n sp M : Nat) : Nat := if tkP t n sp 49 (hiM M) then (if nbP t n (sp + 1) (t sp - 49 + 1) M then sp + 1 + 1 else sp + 1) else sp
def nbB (t : Nat → Nat) (n sp M : Nat) (bd : Bool) : Bool := tkB t n sp 49 (hiM M) bd
theorem nb_n {t : Nat → Nat} {n sp M : Nat} (h : ¬ tkP t n sp 49 (hiM M)) : nb t n sp M = none ∧ nbS t n sp M = sp := ⟨if_neg h, if_neg h⟩
theorem nb_1 {t : Nat → Nat} {n sp M : Nat} (h : tkP t n sp 49 (hiM M)) (h2 : ¬ nbP t n (sp + 1) (t sp - 49 + 1) M) : nb t n sp M = some (t sp - 49 + 1) ∧ nbS t n sp M = sp + 1 := by
  unfold nb nbS
  rw [if_pos h, if_pos h, if_neg h2, if_neg h2]
  exact ⟨rfl, rfl⟩
theorem nb_2 {t : Nat → Nat} {n sp M : Nat} (h : tkP t n sp 49 (hiM M)) (h2 : nbP t n (sp + 1) (t sp - 49 + 1) M) : nb t n sp M = some (10 * (t sp - 49 + 1) + t (sp + 1) - 48) ∧ nbS t n sp M = sp + 1 + 1 := by
  unfold nb nbS
  rw [if_pos h, if_pos h, if_pos h2, if_pos h2]
  exact ⟨rfl, rfl⟩
theorem nbS_le {t : Nat → Nat} {n sp M : Nat} (h : sp ≤ n) : sp ≤ nbS t n sp M ∧ nbS t n sp M ≤ n := by
  unfold nbS nbP tkP
  (repeat' split) <;> omega
theorem nb_lt {t : Nat → Nat} {n sp M : Nat} (hM : M < 100) : ∀ v, nb t n sp M = some v → v < 1000 := by
  intro v hv
  have h57 : hiM M ≤ 57 := by unfold hiM; split <;> omega
  unfold nb nbP tkP at hv
  (repeat' split at hv)
  · injection hv with e; omega
  · injection hv with e; omega
  · cases hv
def lC (t : Nat → Nat) (n sp : Nat) : Nat := if sp < n then t sp else 0
def isL (c : Nat) : Bool := decide (c = 97 ∨ c = 108 ∨ c = 117 ∨ c = 120 ∨ c = 119 ∨ c = 100)
theorem b2_fit (P : Prop) [Decidable P] : fits .boolean (.int (b2 P)) = true := by
  unfold b2
  by_cases h : P <;> simp only [h, if_true, if_false] <;> decide +kernel
/-- 'a': the places, what is read -/
def aO1 (t : Nat → Nat) (n sp : Nat) : Option Nat := tk t n (sp + 1) 48 49
def aS2 (t : Nat → Nat) (n sp : Nat) : Nat := tkS t n (sp + 1) 48 49
def aO2 (t : Nat → Nat) (n sp : Nat) : Option Nat := tk t n (aS2 t n sp) 58 58
def aS3 (t : Nat → Nat) (n sp : Nat) : Nat := tkS t n (aS2 t n sp) 58 58
def aO3 (t : Nat → Nat) (n sp : Nat) : Option Nat := nb t n (aS3 t n sp) 20
def aOk (t : Nat → Nat) (n sp : Nat) : Bool := (aO1 t n sp).isSome && ((aO2 t n sp).isSome && (aO3 t n sp).isSome)
def aS (t : Nat → Nat) (n sp : Nat) : Nat := if aO1 t n sp = none then aS2 t n sp else if aO2 t n sp = none then aS3 t n sp else nbS t n (aS3 t n sp) 20
def aB (t : Nat → Nat) (n sp : Nat) (bd : Bool) : Bool := if aO1 t n sp = none then tkB t n (sp + 1) 48 49 bd else if aO2 t n sp = none then tkB t n (aS2 t n sp) 58 58 (tkB t n (sp + 1) 48 49 bd) else nbB t n (aS3 t n sp) 20 (tkB t n (aS2 t n sp) 58 58 (tkB t n (sp + 1) 48 49 bd))
def aW2 (t : Nat → Nat) (n sp : Nat) : Int32 := if aO1 t n sp = none then -1 else if aO2 t n sp = none then -1 else ov (aO3 t n sp)
theorem inc_raw (x : Int32) : x + Int32.ofInt 1 = x + nI 1 := by rw [show Int32.ofInt 1 = nI 1 from by decide +kernel]
theorem isSome_iff {o : Option Nat} : o.isSome = true ↔ ¬ o = none := by cases o <;> simp
theorem hiM_le {M : Nat} : hiM M ≤ 57 := by unfold hiM; split <;> omega

/-! the class's own reading of orders: what the characters so far end with -/
def ebK (c : Nat) : Option Nat := if c = 97 then some 1 else if c = 100 then some 6 else if c = 108 then some 4 else if c = 117 then some 10 else if c = 119 then some 5 else if c = 120 then some 10 else none
def eb1 (c two : Nat) : Option Nat := if c = 49 then some 7 else if c = 50 then some two else if 51 ≤ c ∧ c ≤ 57 then some 10 else none
def eb2 (c g : Nat) : Option Nat := if 48 ≤ c ∧ c ≤ g then some 10 else if c = 59 then some 0 else none
def ebF : Option Nat → Nat → Option Nat
  | none, _ => none
  | some 0, c => ebK c
  | some 1, c => if 48 ≤ c ∧ c ≤ 49 then some 2 else none
  | some 2, c => if c = 58 then some 3 else none
  | some 3, c => eb1 c 8
  | some 4, c => if 48 ≤ c ∧ c ≤ 49 then some 10 else none
  | some 5, c => eb1 c 9
  | some 6, c => if 49 ≤ c ∧ c ≤ 53 then some 10 else none
  | some 7, c => eb2 c 57
  | some 8, c => eb2 c 48
  | some 9, c => eb2 c 52
  | _, c => if c = 59 then some 0 else none
theorem ebK_r {c v : Nat} (h : ebK c = some v) : v ≤ 10 := by
  unfold ebK at h
  (repeat' split at h) <;> first | (injection h with e; omega) | cases h
theorem eb1_r {c two v : Nat} (h2 : two ≤ 10) (h : eb1 c two = some v) : v ≤ 10 := by
  unfold eb1 at h
  (repeat' split at h) <;> first | (injection h with e; omega) | cases h
theorem eb2_r {c g v : Nat} (h : eb2 c g = some v) : v ≤ 10 := by
  unfold eb2 at h
  (repeat' split at h) <;> first | (injection h with e; omega) | cases h
theorem ebF_r {e : Option Nat} {c v : Nat} (h : ebF e c = some v) : v ≤ 10 := by
  unfold ebF at h
  split at h
  all_goals first
    | exact ebK_r h
    | exact eb1_r (by decide) h
    | exact eb2_r h
    | cases h
    | (split at h <;> first | (injection h with e; omega) | cases h)
def eOk (e : Option Nat) : Prop := ∀ v, e = some v → v ≤ 10
theorem eOk_F {e : Option Nat} {c : Nat} : eOk (ebF e c) := fun _ h => ebF_r h
theorem e_cases {e : Option Nat} (h : eOk e) : e = none ∨ e = some 0 ∨ e = some 1 ∨ e = some 2 ∨ e = some 3 ∨ e = some 4 ∨ e = some 5 ∨ e = some 6 ∨ e = some 7 ∨ e = some 8 ∨ e = some 9 ∨ e = some 10 := by
  cases e with
  | none => exact .inl rfl
  | some v =>
    have := h v rfl
    have q : v = 0 ∨ v = 1 ∨ v = 2 ∨ v = 3 ∨ v = 4 ∨ v = 5 ∨ v = 6 ∨ v = 7 ∨ v = 8 ∨ v = 9 ∨ v = 10 := by omega
    rcases q with rfl | rfl | rfl | rfl | rfl | rfl | rfl | rfl | rfl | rfl | rfl <;> simp
def rtN (rt : Nat) (e : Option Nat) : Nat := if e = none then rt else rt + 1
def cdA (tx : Nat → Int32) (len i : Nat) : Int32 := if i < len then tx i else -1
abbrev isS (tx : Nat → Int32) (i : Nat) : Prop := i = 0 ∨ nn tx (i - 1) = 59
def nuF (t : Nat → Nat) (n : Nat) : Nat → Nat → Nat → Nat
  | 0, _, a => a
  | k + 1, i, a => if i < n ∧ 48 ≤ t i ∧ t i ≤ 57 then nuF t n k (i + 1) (10 * a + t i - 48) else a
theorem eb_no {e : Option Nat} (h : eOk e) : ov e = -1 ↔ e = none := ov_m1 fun v q => by have := h v q; omega
def eCp (e : Option Nat) : Bool := match e with
  | none => false
  | some v => decide (7 ≤ v)
theorem eCp_i {e : Option Nat} (h : eOk e) : nI 7 ≤ ov e ↔ eCp e = true := by
  rcases e_cases h with rfl | rfl | rfl | rfl | rfl | rfl | rfl | rfl | rfl | rfl | rfl | rfl <;> decide +kernel
theorem nuF_s {t : Nat → Nat} {n j a : Nat} (h : j < n) (h2 : 48 ≤ t j ∧ t j ≤ 57) : nuF t n (n - j) j a = nuF t n (n - (j + 1)) (j + 1) (10 * a + t j - 48) := by
  rw [show n - j = (n - (j + 1)) + 1 by omega]
  show (if _ then _ else _) = _
  rw [if_pos ⟨h, h2⟩]
theorem nuF_e {t : Nat → Nat} {n j a : Nat} (h : ¬ j < n) : nuF t n (n - j) j a = a := by
  rw [show n - j = 0 by omega]
  rfl
theorem nuF_d {t : Nat → Nat} {n j a : Nat} (h2 : ¬ (48 ≤ t j ∧ t j ≤ 57)) : nuF t n (n - j) j a = a := by
  rcases Nat.lt_or_ge j n with h | h
  · rw [show n - j = (n - (j + 1)) + 1 by omega]
    show (if _ then _ else _) = _
    rw [if_neg (fun q => h2 q.2)]
  · exact nuF_e (Nat.not_lt.mpr h)

theorem ndL_y {f : Nat → Int32} {t k : Nat} (h1 : nI k ≤ f 49) (h2 : fRsn (fDrw f k) = 0) : ndL f (t + 1) k = nI k := by
  show (if _ then (if _ then _ else _) else _) = _
  rw [if_pos h1, if_pos h2]
theorem ndL_s {f : Nat → Int32} {t k : Nat} (h1 : nI k ≤ f 49) (h2 : ¬ fRsn (fDrw f k) = 0) : ndL f (t + 1) k = ndL f t (k + 1) := by
  show (if _ then (if _ then _ else _) else _) = _
  rw [if_pos h1, if_neg h2]
theorem ndL_e {f : Nat → Int32} {t k : Nat} (h1 : ¬ nI k ≤ f 49) : ndL f (t + 1) k = -1 := by
  show (if _ then (if _ then _ else _) else _) = _
  rw [if_neg h1]
theorem cpy97 {f g : Nat → Int32} : ∀ j, j < 97 → va_cpy f g 0 0 97 j = f j := fun j hj => by
  rw [pk_cpy_in (by omega) (by omega)]
  congr 1
  omega
def mxW (f : Nat → Int32) (h : Int64) : Int64 := mxL (fun k => (fOf f (k / 3) (k % 3)).toInt64) (mxL (fun k => (f (3 + k)).toInt64) (mxL (fun k => (f k).toInt64) h 3) 24) 60
def mvB (f : Nat → Int32) (h : Int64) : Nat → Int64
  | 0 => h
  | b + 1 => mxL (fun j => (f (57 + 11 * b + 1 + j)).toInt64) (31 * mvB f h b + (f (57 + (11 * b))).toInt64) (nn f (57 + (11 * b)))
def mvL (f : Nat → Int32) (h : Int64) : Nat → Int64
  | 0 => h
  | b + 1 => mxL (fun k => (f (79 + 9 * b + 1 + 2 * (k / 2) + k % 2)).toInt64) (31 * mvL f h b + (f (79 + (9 * b))).toInt64) (2 * nn f (79 + (9 * b)))
def mvV (f : Nat → Int32) (h : Int64) : Int64 := mvL f (mvB f h 2) 2

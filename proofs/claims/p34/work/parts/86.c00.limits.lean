def li_L1 : List Nat := [50, 12, 10, 10, 10, 10, 10, 10, 10, 10, 10, 10, 10, 10, 10, 10, 10, 10, 10, 10, 10, 10, 10, 10, 10, 10, 10, 0, 0, 0, 0, 0, 0, 0, 0, 0, 0, 0, 0, 0, 0, 0, 0, 0, 0, 0, 0, 0, 0, 40, 0, 0, 0, 0, 0, 0, 0, 0, 0, 0, 0, 0, 0, 0, 0, 0, 0, 0, 0, 0, 0, 0, 0, 0, 0, 0, 0, 0, 0, 0, 0, 0, 0, 0, 0, 0, 0, 0, 0, 0, 0, 0, 0, 0, 0, 0, 0]
theorem li_e0 : upd (fnL L0) 0 (nI 50) = fnL li_L1 := fn_eq 97 (by decide +kernel) (by decide +kernel) (hi_u (hi_fn (by decide +kernel)) (by decide))
def li_L2 : List Nat := [50, 12, 10, 10, 10, 10, 40, 10, 10, 10, 10, 10, 10, 10, 10, 10, 10, 10, 10, 10, 10, 10, 10, 10, 10, 10, 10, 0, 0, 0, 0, 0, 0, 0, 0, 0, 0, 0, 0, 0, 0, 0, 0, 0, 0, 0, 0, 0, 0, 40, 0, 0, 0, 0, 0, 0, 0, 0, 0, 0, 0, 0, 0, 0, 0, 0, 0, 0, 0, 0, 0, 0, 0, 0, 0, 0, 0, 0, 0, 0, 0, 0, 0, 0, 0, 0, 0, 0, 0, 0, 0, 0, 0, 0, 0, 0, 0]
theorem li_e1 : upd (fnL li_L1) (3 + 3) (nI 40) = fnL li_L2 := fn_eq 97 (by decide +kernel) (by decide +kernel) (hi_u (hi_fn (by decide +kernel)) (by decide))
def li_L3 : List Nat := [50, 12, 10, 10, 10, 10, 40, 10, 0, 10, 10, 10, 10, 10, 10, 10, 10, 10, 10, 10, 10, 10, 10, 10, 10, 10, 10, 0, 0, 0, 0, 0, 0, 0, 0, 0, 0, 0, 0, 0, 0, 0, 0, 0, 0, 0, 0, 0, 0, 40, 0, 0, 0, 0, 0, 0, 0, 0, 0, 0, 0, 0, 0, 0, 0, 0, 0, 0, 0, 0, 0, 0, 0, 0, 0, 0, 0, 0, 0, 0, 0, 0, 0, 0, 0, 0, 0, 0, 0, 0, 0, 0, 0, 0, 0, 0, 0]
theorem li_e2 : upd (fnL li_L2) (3 + 5) (nI 0) = fnL li_L3 := fn_eq 97 (by decide +kernel) (by decide +kernel) (hi_u (hi_fn (by decide +kernel)) (by decide))
def li_L4 : List Nat := [50, 12, 10, 10, 10, 10, 40, 10, 0, 10, 10, 10, 10, 10, 10, 10, 10, 10, 10, 10, 10, 10, 10, 10, 10, 10, 10, 0, 0, 0, 0, 0, 0, 0, 0, 0, 0, 0, 0, 0, 0, 0, 0, 0, 0, 0, 0, 0, 0, 40, 3, 0, 0, 0, 0, 0, 0, 0, 0, 0, 0, 0, 0, 0, 0, 0, 0, 0, 0, 0, 0, 0, 0, 0, 0, 0, 0, 0, 0, 0, 0, 0, 0, 0, 0, 0, 0, 0, 0, 0, 0, 0, 0, 0, 0, 0, 0]
theorem li_e3 : fPas (fnL li_L3) (nI 3) = fnL li_L4 := fn_eq 97 (by decide +kernel) (by decide +kernel) (hi_pas (hi_fn (by decide +kernel)))
def li_L5 : List Nat := [50, 12, 10, 10, 10, 10, 40, 10, 0, 10, 10, 10, 10, 10, 10, 10, 10, 10, 10, 10, 10, 10, 10, 10, 10, 10, 10, 0, 0, 0, 0, 0, 0, 0, 0, 0, 0, 0, 0, 0, 0, 0, 0, 0, 0, 0, 0, 0, 0, 39, 4, 0, 0, 0, 0, 0, 0, 0, 0, 0, 0, 0, 0, 0, 0, 0, 0, 0, 0, 0, 0, 0, 0, 0, 0, 0, 0, 0, 0, 0, 0, 0, 0, 0, 0, 0, 0, 0, 0, 0, 0, 0, 0, 0, 0, 0, 0]
theorem li_e4 : fDrw (fnL li_L4) 1 = fnL li_L5 := fn_eq 97 (by decide +kernel) (by decide +kernel) (hi_drw (hi_fn (by decide +kernel)))
def li_L6 : List Nat := [50, 12, 1, 10, 10, 10, 40, 10, 0, 10, 10, 10, 10, 10, 10, 10, 10, 10, 10, 10, 10, 10, 10, 10, 10, 10, 10, 0, 0, 0, 0, 0, 0, 0, 0, 0, 0, 0, 0, 0, 0, 0, 0, 0, 0, 0, 0, 0, 0, 40, 0, 0, 0, 0, 0, 0, 0, 0, 0, 0, 0, 0, 0, 0, 0, 0, 0, 0, 0, 0, 0, 0, 0, 0, 0, 0, 0, 0, 0, 0, 0, 0, 0, 0, 0, 0, 0, 0, 0, 0, 0, 0, 0, 0, 0, 0, 0]
theorem li_e5 : upd (fnL li_L3) 2 (nI 1) = fnL li_L6 := fn_eq 97 (by decide +kernel) (by decide +kernel) (hi_u (hi_fn (by decide +kernel)) (by decide))
theorem li_e6 : upd (fnL li_L6) (3 + 0) (nI 10) = fnL li_L6 := fn_eq 97 (by decide +kernel) (by decide +kernel) (hi_u (hi_fn (by decide +kernel)) (by decide))
theorem li_e7 : upd (fnL li_L6) (3 + 1) (nI 10) = fnL li_L6 := fn_eq 97 (by decide +kernel) (by decide +kernel) (hi_u (hi_fn (by decide +kernel)) (by decide))
theorem li_e8 : upd (fnL li_L6) (3 + 2) (nI 10) = fnL li_L6 := fn_eq 97 (by decide +kernel) (by decide +kernel) (hi_u (hi_fn (by decide +kernel)) (by decide))
def li_L7 : List Nat := [50, 12, 1, 10, 10, 10, 10, 10, 0, 10, 10, 10, 10, 10, 10, 10, 10, 10, 10, 10, 10, 10, 10, 10, 10, 10, 10, 0, 0, 0, 0, 0, 0, 0, 0, 0, 0, 0, 0, 0, 0, 0, 0, 0, 0, 0, 0, 0, 0, 40, 0, 0, 0, 0, 0, 0, 0, 0, 0, 0, 0, 0, 0, 0, 0, 0, 0, 0, 0, 0, 0, 0, 0, 0, 0, 0, 0, 0, 0, 0, 0, 0, 0, 0, 0, 0, 0, 0, 0, 0, 0, 0, 0, 0, 0, 0, 0]
theorem li_e9 : upd (fnL li_L6) (3 + 3) (nI 10) = fnL li_L7 := fn_eq 97 (by decide +kernel) (by decide +kernel) (hi_u (hi_fn (by decide +kernel)) (by decide))
theorem li_e10 : upd (fnL li_L7) (3 + 4) (nI 10) = fnL li_L7 := fn_eq 97 (by decide +kernel) (by decide +kernel) (hi_u (hi_fn (by decide +kernel)) (by decide))
def li_L8 : List Nat := [50, 12, 1, 10, 10, 10, 10, 10, 10, 10, 10, 10, 10, 10, 10, 10, 10, 10, 10, 10, 10, 10, 10, 10, 10, 10, 10, 0, 0, 0, 0, 0, 0, 0, 0, 0, 0, 0, 0, 0, 0, 0, 0, 0, 0, 0, 0, 0, 0, 40, 0, 0, 0, 0, 0, 0, 0, 0, 0, 0, 0, 0, 0, 0, 0, 0, 0, 0, 0, 0, 0, 0, 0, 0, 0, 0, 0, 0, 0, 0, 0, 0, 0, 0, 0, 0, 0, 0, 0, 0, 0, 0, 0, 0, 0, 0, 0]
theorem li_e11 : upd (fnL li_L7) (3 + 5) (nI 10) = fnL li_L8 := fn_eq 97 (by decide +kernel) (by decide +kernel) (hi_u (hi_fn (by decide +kernel)) (by decide))
def li_L9 : List Nat := [50, 12, 1, 10, 10, 10, 10, 10, 10, 10, 10, 10, 10, 10, 10, 10, 10, 10, 10, 10, 10, 10, 10, 10, 10, 10, 10, 2, 4, 6, 8, 10, 12, 14, 16, 18, 20, 20, 18, 16, 14, 12, 10, 8, 6, 4, 2, 0, 220, 40, 1, 1, 1, 0, 0, 0, 0, 0, 0, 0, 0, 0, 0, 0, 0, 0, 0, 0, 0, 0, 0, 0, 0, 0, 0, 0, 0, 0, 0, 0, 0, 0, 0, 0, 0, 0, 0, 0, 0, 0, 0, 0, 0, 0, 0, 0, 0]
theorem li_e12 : fCrs (fnL li_L8) = fnL li_L9 := fn_eq 97 (by decide +kernel) (by decide +kernel) (hi_crs (hi_fn (by decide +kernel)))
def li_L10 : List Nat := [50, 12, 1, 10, 10, 10, 10, 10, 10, 10, 10, 10, 10, 10, 10, 10, 10, 10, 10, 10, 10, 10, 10, 10, 10, 10, 10, 4, 8, 12, 16, 20, 24, 28, 32, 36, 40, 40, 36, 32, 28, 24, 20, 16, 12, 8, 4, 0, 440, 40, 2, 0, 2, 0, 0, 0, 0, 0, 0, 0, 0, 0, 0, 0, 0, 0, 0, 0, 0, 0, 0, 0, 0, 0, 0, 0, 0, 0, 0, 0, 0, 0, 0, 0, 0, 0, 0, 0, 0, 0, 0, 0, 0, 0, 0, 0, 0]
theorem li_e13 : fCrs (fnL li_L9) = fnL li_L10 := fn_eq 97 (by decide +kernel) (by decide +kernel) (hi_crs (hi_fn (by decide +kernel)))
def li_L11 : List Nat := [50, 12, 1, 10, 10, 10, 10, 10, 10, 10, 10, 10, 10, 10, 10, 10, 10, 10, 10, 10, 10, 10, 10, 10, 10, 10, 10, 6, 12, 18, 24, 30, 36, 42, 48, 54, 60, 60, 54, 48, 42, 36, 30, 24, 18, 12, 6, 1, 160, 40, 3, 1, 3, 0, 0, 0, 0, 0, 0, 0, 0, 0, 0, 0, 0, 0, 0, 0, 0, 0, 0, 0, 0, 0, 0, 0, 0, 0, 0, 0, 0, 0, 0, 0, 0, 0, 0, 0, 0, 0, 0, 0, 0, 0, 0, 0, 0]
theorem li_e14 : fCrs (fnL li_L10) = fnL li_L11 := fn_eq 97 (by decide +kernel) (by decide +kernel) (hi_crs (hi_fn (by decide +kernel)))
def li_L12 : List Nat := [50, 12, 1, 10, 10, 10, 10, 10, 10, 10, 10, 10, 10, 10, 10, 10, 10, 10, 10, 10, 10, 10, 10, 10, 10, 10, 10, 6, 12, 20, 28, 36, 44, 52, 60, 68, 76, 76, 68, 60, 52, 44, 36, 28, 20, 12, 6, 1, 304, 40, 4, 0, 4, 0, 0, 0, 0, 0, 0, 0, 0, 0, 0, 0, 0, 0, 0, 0, 0, 0, 0, 0, 0, 0, 0, 0, 0, 0, 0, 0, 0, 0, 0, 0, 0, 0, 0, 0, 0, 0, 0, 0, 0, 0, 0, 0, 0]
theorem li_e15 : fCrs (fnL li_L11) = fnL li_L12 := fn_eq 97 (by decide +kernel) (by decide +kernel) (hi_crs (hi_fn (by decide +kernel)))
def li_L13 : List Nat := [300, 12, 10, 10, 10, 10, 10, 10, 10, 10, 10, 10, 10, 10, 10, 10, 10, 10, 10, 10, 10, 10, 10, 10, 10, 10, 10, 0, 0, 0, 0, 0, 0, 0, 0, 0, 0, 0, 0, 0, 0, 0, 0, 0, 0, 0, 0, 0, 0, 40, 0, 0, 0, 1, 0, 0, 0, 0, 0, 0, 0, 0, 0, 0, 0, 0, 0, 0, 1, 1, 0, 0, 0, 0, 0, 0, 0, 0, 0, 0, 0, 0, 0, 0, 0, 0, 0, 0, 0, 0, 0, 0, 0, 0, 0, 0, 0]
theorem li_e16 : fArr (fnL L0) 1 (nI 1) = fnL li_L13 := fn_eq 97 (by decide +kernel) (by decide +kernel) (hi_arr (hi_fn (by decide +kernel)) (by decide) (by decide +kernel))
def li_L14 : List Nat := [300, 12, 10, 10, 10, 10, 10, 10, 10, 10, 10, 10, 10, 10, 10, 10, 10, 10, 10, 10, 10, 10, 10, 10, 10, 10, 10, 0, 0, 0, 0, 0, 0, 0, 0, 0, 0, 0, 0, 0, 0, 0, 0, 0, 0, 0, 0, 0, 0, 40, 0, 0, 0, 2, 0, 0, 0, 0, 0, 0, 0, 0, 0, 0, 0, 0, 0, 0, 2, 1, 2, 0, 0, 0, 0, 0, 0, 0, 0, 0, 0, 0, 0, 0, 0, 0, 0, 0, 0, 0, 0, 0, 0, 0, 0, 0, 0]
theorem li_e17 : fArr (fnL li_L13) 1 (nI 2) = fnL li_L14 := fn_eq 97 (by decide +kernel) (by decide +kernel) (hi_arr (hi_fn (by decide +kernel)) (by decide) (by decide +kernel))
def li_L15 : List Nat := [300, 12, 10, 10, 10, 10, 10, 10, 10, 10, 10, 10, 10, 10, 10, 10, 10, 10, 10, 10, 10, 10, 10, 10, 10, 10, 10, 0, 0, 0, 0, 0, 0, 0, 0, 0, 0, 0, 0, 0, 0, 0, 0, 0, 0, 0, 0, 0, 0, 40, 0, 0, 0, 3, 0, 0, 0, 0, 0, 0, 0, 0, 0, 0, 0, 0, 0, 0, 3, 1, 2, 3, 0, 0, 0, 0, 0, 0, 0, 0, 0, 0, 0, 0, 0, 0, 0, 0, 0, 0, 0, 0, 0, 0, 0, 0, 0]
theorem li_e18 : fArr (fnL li_L14) 1 (nI 3) = fnL li_L15 := fn_eq 97 (by decide +kernel) (by decide +kernel) (hi_arr (hi_fn (by decide +kernel)) (by decide) (by decide +kernel))
def li_L16 : List Nat := [300, 12, 10, 10, 10, 10, 10, 10, 10, 10, 10, 10, 10, 10, 10, 10, 10, 10, 10, 10, 10, 10, 10, 10, 10, 10, 10, 0, 0, 0, 0, 0, 0, 0, 0, 0, 0, 0, 0, 0, 0, 0, 0, 0, 0, 0, 0, 0, 0, 40, 0, 0, 0, 4, 0, 0, 0, 0, 0, 0, 0, 0, 0, 0, 0, 0, 0, 0, 4, 1, 2, 3, 4, 0, 0, 0, 0, 0, 0, 0, 0, 0, 0, 0, 0, 0, 0, 0, 0, 0, 0, 0, 0, 0, 0, 0, 0]
theorem li_e19 : fArr (fnL li_L15) 1 (nI 4) = fnL li_L16 := fn_eq 97 (by decide +kernel) (by decide +kernel) (hi_arr (hi_fn (by decide +kernel)) (by decide) (by decide +kernel))
def li_L17 : List Nat := [300, 12, 10, 10, 10, 10, 10, 10, 10, 10, 10, 10, 10, 10, 10, 10, 10, 10, 10, 10, 10, 10, 10, 10, 10, 10, 10, 0, 0, 0, 0, 0, 0, 0, 0, 0, 0, 0, 0, 0, 0, 0, 0, 0, 0, 0, 0, 0, 0, 40, 0, 0, 0, 5, 0, 0, 0, 0, 0, 0, 0, 0, 0, 0, 0, 0, 0, 0, 5, 1, 2, 3, 4, 5, 0, 0, 0, 0, 0, 0, 0, 0, 0, 0, 0, 0, 0, 0, 0, 0, 0, 0, 0, 0, 0, 0, 0]
theorem li_e20 : fArr (fnL li_L16) 1 (nI 5) = fnL li_L17 := fn_eq 97 (by decide +kernel) (by decide +kernel) (hi_arr (hi_fn (by decide +kernel)) (by decide) (by decide +kernel))
def li_L18 : List Nat := [300, 12, 10, 10, 10, 10, 10, 10, 10, 10, 10, 10, 10, 10, 10, 10, 10, 10, 10, 10, 10, 10, 10, 10, 10, 10, 10, 0, 0, 0, 0, 0, 0, 0, 0, 0, 0, 0, 0, 0, 0, 0, 0, 0, 0, 0, 0, 0, 0, 40, 0, 0, 0, 6, 0, 0, 0, 0, 0, 0, 0, 0, 0, 0, 0, 0, 0, 0, 6, 1, 2, 3, 4, 5, 6, 0, 0, 0, 0, 0, 0, 0, 0, 0, 0, 0, 0, 0, 0, 0, 0, 0, 0, 0, 0, 0, 0]
theorem li_e21 : fArr (fnL li_L17) 1 (nI 6) = fnL li_L18 := fn_eq 97 (by decide +kernel) (by decide +kernel) (hi_arr (hi_fn (by decide +kernel)) (by decide) (by decide +kernel))
def li_L19 : List Nat := [300, 12, 10, 10, 10, 10, 10, 10, 10, 10, 10, 10, 10, 10, 10, 10, 10, 10, 10, 10, 10, 10, 10, 10, 10, 10, 10, 0, 0, 0, 0, 0, 0, 0, 0, 0, 0, 0, 0, 0, 0, 0, 0, 0, 0, 0, 0, 0, 0, 40, 0, 0, 0, 7, 0, 0, 0, 0, 0, 0, 0, 0, 0, 0, 0, 0, 0, 0, 7, 1, 2, 3, 4, 5, 6, 7, 0, 0, 0, 0, 0, 0, 0, 0, 0, 0, 0, 0, 0, 0, 0, 0, 0, 0, 0, 0, 0]
theorem li_e22 : fArr (fnL li_L18) 1 (nI 7) = fnL li_L19 := fn_eq 97 (by decide +kernel) (by decide +kernel) (hi_arr (hi_fn (by decide +kernel)) (by decide) (by decide +kernel))
def li_L20 : List Nat := [300, 12, 10, 10, 10, 10, 10, 10, 10, 10, 10, 10, 10, 10, 10, 10, 10, 10, 10, 10, 10, 10, 10, 10, 10, 10, 10, 0, 0, 0, 0, 0, 0, 0, 0, 0, 0, 0, 0, 0, 0, 0, 0, 0, 0, 0, 0, 0, 0, 40, 0, 0, 0, 8, 0, 0, 0, 0, 0, 0, 0, 0, 0, 0, 0, 0, 0, 0, 8, 1, 2, 3, 4, 5, 6, 7, 8, 0, 0, 0, 0, 0, 0, 0, 0, 0, 0, 0, 0, 0, 0, 0, 0, 0, 0, 0, 0]
theorem li_e23 : fArr (fnL li_L19) 1 (nI 8) = fnL li_L20 := fn_eq 97 (by decide +kernel) (by decide +kernel) (hi_arr (hi_fn (by decide +kernel)) (by decide) (by decide +kernel))
def li_L21 : List Nat := [300, 12, 10, 10, 10, 10, 10, 10, 10, 10, 10, 10, 10, 10, 10, 10, 10, 10, 10, 10, 10, 10, 10, 10, 10, 10, 10, 0, 0, 0, 0, 0, 0, 0, 0, 0, 0, 0, 0, 0, 0, 0, 0, 0, 0, 0, 0, 0, 0, 40, 0, 0, 0, 9, 0, 0, 0, 0, 0, 0, 0, 0, 0, 0, 0, 0, 0, 0, 9, 1, 2, 3, 4, 5, 6, 7, 8, 9, 0, 0, 0, 0, 0, 0, 0, 0, 0, 0, 0, 0, 0, 0, 0, 0, 0, 0, 0]
theorem li_e24 : fArr (fnL li_L20) 1 (nI 9) = fnL li_L21 := fn_eq 97 (by decide +kernel) (by decide +kernel) (hi_arr (hi_fn (by decide +kernel)) (by decide) (by decide +kernel))
def li_L22 : List Nat := [300, 12, 10, 10, 10, 10, 10, 10, 10, 10, 10, 10, 10, 10, 10, 10, 10, 10, 10, 10, 10, 10, 10, 10, 10, 10, 10, 0, 0, 0, 0, 0, 0, 0, 0, 0, 0, 0, 0, 0, 0, 0, 0, 0, 0, 0, 0, 0, 0, 40, 0, 0, 0, 10, 0, 0, 0, 0, 0, 0, 0, 0, 0, 0, 0, 0, 0, 0, 10, 1, 2, 3, 4, 5, 6, 7, 8, 9, 10, 0, 0, 0, 0, 0, 0, 0, 0, 0, 0, 0, 0, 0, 0, 0, 0, 0, 0]
theorem li_e25 : fArr (fnL li_L21) 1 (nI 10) = fnL li_L22 := fn_eq 97 (by decide +kernel) (by decide +kernel) (hi_arr (hi_fn (by decide +kernel)) (by decide) (by decide +kernel))
def li_L23 : List Nat := [300, 12, 10, 10, 10, 10, 10, 10, 10, 10, 10, 10, 10, 10, 10, 10, 10, 10, 10, 10, 10, 10, 10, 10, 10, 10, 10, 0, 0, 0, 0, 1, 1, 1, 1, 1, 2, 2, 1, 1, 1, 1, 1, 0, 0, 0, 0, 0, 220, 40, 1, 1, 1, 10, 0, 0, 10, 0, 0, 0, 0, 0, 0, 0, 0, 0, 0, 0, 10, 1, 2, 3, 4, 5, 6, 7, 8, 9, 10, 0, 0, 0, 0, 0, 0, 0, 0, 0, 0, 0, 0, 0, 0, 0, 0, 0, 0]
theorem li_e26 : fCrs (fnL li_L22) = fnL li_L23 := fn_eq 97 (by decide +kernel) (by decide +kernel) (hi_crs (hi_fn (by decide +kernel)))
def li_L24 : List Nat := [300, 12, 10, 10, 10, 10, 10, 10, 10, 10, 10, 10, 10, 10, 10, 10, 10, 10, 10, 10, 10, 10, 10, 10, 10, 10, 10, 0, 0, 0, 0, 1, 1, 1, 1, 1, 2, 2, 1, 1, 1, 1, 1, 0, 0, 0, 0, 0, 220, 40, 1, 1, 1, 10, 0, 0, 10, 0, 0, 0, 0, 0, 0, 0, 0, 0, 0, 0, 9, 2, 3, 4, 5, 6, 7, 8, 9, 10, 0, 0, 0, 0, 0, 0, 0, 0, 0, 0, 1, 1, 1, 0, 0, 0, 0, 0, 0]
theorem li_e27 : fLod (fnL li_L23) 1 = fnL li_L24 := fn_eq 97 (by decide +kernel) (by decide +kernel) (hi_lod (hi_fn (by decide +kernel)) (by decide) (by decide +kernel) (by decide +kernel))
def li_L25 : List Nat := [300, 12, 10, 10, 10, 10, 10, 10, 10, 10, 10, 10, 10, 10, 10, 10, 10, 10, 10, 10, 10, 10, 10, 10, 10, 10, 10, 0, 0, 0, 0, 1, 1, 1, 1, 1, 2, 2, 1, 1, 1, 1, 1, 0, 0, 0, 0, 0, 220, 40, 1, 1, 1, 10, 0, 0, 10, 0, 0, 0, 0, 0, 0, 0, 0, 0, 0, 0, 8, 3, 4, 5, 6, 7, 8, 9, 10, 0, 0, 0, 0, 0, 0, 0, 0, 0, 0, 0, 2, 1, 1, 2, 1, 0, 0, 0, 0]
theorem li_e28 : fLod (fnL li_L24) 1 = fnL li_L25 := fn_eq 97 (by decide +kernel) (by decide +kernel) (hi_lod (hi_fn (by decide +kernel)) (by decide) (by decide +kernel) (by decide +kernel))
def li_L26 : List Nat := [300, 12, 10, 10, 10, 10, 10, 10, 10, 10, 10, 10, 10, 10, 10, 10, 10, 10, 10, 10, 10, 10, 10, 10, 10, 10, 10, 0, 0, 0, 0, 1, 1, 1, 1, 1, 2, 2, 1, 1, 1, 1, 1, 0, 0, 0, 0, 0, 220, 40, 1, 1, 1, 10, 0, 0, 10, 0, 0, 0, 0, 0, 0, 0, 0, 0, 0, 0, 7, 4, 5, 6, 7, 8, 9, 10, 0, 0, 0, 0, 0, 0, 0, 0, 0, 0, 0, 0, 3, 1, 1, 2, 1, 3, 1, 0, 0]
theorem li_e29 : fLod (fnL li_L25) 1 = fnL li_L26 := fn_eq 97 (by decide +kernel) (by decide +kernel) (hi_lod (hi_fn (by decide +kernel)) (by decide) (by decide +kernel) (by decide +kernel))
def li_L27 : List Nat := [300, 12, 10, 10, 10, 10, 10, 10, 10, 10, 10, 10, 10, 10, 10, 10, 10, 10, 10, 10, 10, 10, 10, 10, 10, 10, 10, 0, 0, 0, 0, 1, 1, 1, 1, 1, 2, 2, 1, 1, 1, 1, 1, 0, 0, 0, 0, 0, 220, 40, 1, 1, 1, 10, 0, 0, 10, 0, 0, 0, 0, 0, 0, 0, 0, 0, 0, 0, 6, 5, 6, 7, 8, 9, 10, 0, 0, 0, 0, 0, 0, 0, 0, 0, 0, 0, 0, 0, 4, 1, 1, 2, 1, 3, 1, 4, 1]
theorem li_e30 : fLod (fnL li_L26) 1 = fnL li_L27 := fn_eq 97 (by decide +kernel) (by decide +kernel) (hi_lod (hi_fn (by decide +kernel)) (by decide) (by decide +kernel) (by decide +kernel))
def li_L28 : List Nat := [300, 12, 10, 10, 10, 10, 10, 10, 10, 10, 10, 10, 10, 10, 10, 10, 10, 10, 10, 10, 10, 10, 10, 10, 10, 10, 10, 0, 0, 0, 0, 1, 1, 1, 1, 1, 2, 2, 1, 1, 1, 1, 1, 0, 0, 0, 0, 0, 220, 40, 1, 1, 1, 10, 0, 0, 10, 0, 0, 0, 0, 0, 0, 0, 0, 0, 0, 0, 5, 6, 7, 8, 9, 10, 0, 0, 0, 0, 0, 1, 5, 1, 0, 0, 0, 0, 0, 0, 4, 1, 1, 2, 1, 3, 1, 4, 1]
theorem li_e31 : fLod (fnL li_L27) 0 = fnL li_L28 := fn_eq 97 (by decide +kernel) (by decide +kernel) (hi_lod (hi_fn (by decide +kernel)) (by decide) (by decide +kernel) (by decide +kernel))
def li_L29 : List Nat := [300, 12, 10, 10, 10, 10, 10, 10, 10, 10, 10, 10, 10, 10, 10, 10, 10, 10, 10, 10, 10, 10, 10, 10, 10, 10, 10, 1, 1, 1, 1, 2, 2, 1, 1, 1, 1, 1, 0, 0, 0, 0, 0, 0, 0, 0, 0, 0, 0, 35, 6, 1, 1, 10, 0, 0, 35, 0, 0, 0, 0, 0, 0, 0, 0, 0, 0, 0, 5, 6, 7, 8, 9, 10, 0, 0, 0, 0, 0, 1, 5, 1, 0, 0, 0, 0, 0, 0, 4, 1, 1, 2, 1, 3, 1, 4, 1]
theorem li_e32 : fDrw (fnL li_L28) 5 = fnL li_L29 := fn_eq 97 (by decide +kernel) (by decide +kernel) (hi_drw (hi_fn (by decide +kernel)))
def li_L30 : List Nat := [300, 12, 10, 10, 10, 10, 10, 10, 10, 10, 10, 10, 10, 10, 10, 10, 10, 10, 10, 10, 10, 10, 10, 10, 10, 10, 10, 2, 1, 1, 1, 1, 1, 0, 0, 0, 0, 0, 0, 0, 0, 0, 0, 0, 0, 0, 0, 0, 0, 30, 11, 1, 1, 10, 0, 0, 60, 0, 0, 0, 0, 0, 0, 0, 0, 0, 0, 0, 5, 6, 7, 8, 9, 10, 0, 0, 0, 0, 0, 1, 5, 1, 0, 0, 0, 0, 0, 0, 4, 1, 1, 2, 1, 3, 1, 4, 1]
theorem li_e33 : fDrw (fnL li_L29) 5 = fnL li_L30 := fn_eq 97 (by decide +kernel) (by decide +kernel) (hi_drw (hi_fn (by decide +kernel)))
def li_L31 : List Nat := [300, 12, 10, 10, 10, 10, 10, 10, 10, 10, 10, 10, 10, 10, 10, 10, 10, 10, 10, 10, 10, 10, 10, 10, 10, 10, 10, 1, 0, 0, 0, 0, 0, 0, 0, 0, 0, 0, 0, 0, 0, 0, 0, 0, 0, 0, 0, 0, 0, 25, 16, 1, 1, 10, 0, 0, 85, 0, 0, 0, 0, 0, 0, 0, 0, 0, 0, 0, 5, 6, 7, 8, 9, 10, 0, 0, 0, 0, 0, 1, 5, 1, 0, 0, 0, 0, 0, 0, 4, 1, 1, 2, 1, 3, 1, 4, 1]
theorem li_e34 : fDrw (fnL li_L30) 5 = fnL li_L31 := fn_eq 97 (by decide +kernel) (by decide +kernel) (hi_drw (hi_fn (by decide +kernel)))
def li_L32 : List Nat := [300, 12, 10, 10, 10, 10, 10, 10, 10, 10, 10, 10, 10, 10, 10, 10, 10, 10, 10, 10, 10, 10, 10, 10, 10, 10, 10, 0, 0, 0, 0, 0, 0, 0, 0, 0, 0, 0, 0, 0, 0, 0, 0, 0, 0, 0, 0, 0, 0, 20, 21, 1, 1, 10, 0, 0, 110, 0, 0, 0, 0, 0, 0, 0, 0, 0, 0, 0, 5, 6, 7, 8, 9, 10, 0, 0, 0, 0, 0, 1, 5, 1, 0, 0, 0, 0, 0, 0, 4, 1, 1, 2, 1, 3, 1, 4, 1]
theorem li_e35 : fDrw (fnL li_L31) 5 = fnL li_L32 := fn_eq 97 (by decide +kernel) (by decide +kernel) (hi_drw (hi_fn (by decide +kernel)))
def li_L33 : List Nat := [300, 12, 10, 10, 10, 10, 10, 10, 10, 10, 10, 10, 10, 10, 10, 10, 10, 10, 10, 10, 10, 10, 10, 10, 10, 10, 10, 0, 0, 0, 0, 0, 0, 0, 0, 0, 0, 0, 0, 0, 0, 0, 0, 0, 0, 0, 0, 0, 0, 15, 26, 1, 1, 10, 0, 0, 135, 0, 0, 0, 0, 0, 0, 0, 0, 0, 0, 0, 5, 6, 7, 8, 9, 10, 0, 0, 0, 0, 0, 1, 5, 1, 0, 0, 0, 0, 0, 0, 4, 1, 1, 2, 1, 3, 1, 4, 1]
theorem li_e36 : fDrw (fnL li_L32) 5 = fnL li_L33 := fn_eq 97 (by decide +kernel) (by decide +kernel) (hi_drw (hi_fn (by decide +kernel)))
def li_L34 : List Nat := [300, 12, 10, 10, 10, 10, 10, 10, 10, 10, 10, 10, 10, 10, 10, 10, 10, 10, 10, 10, 10, 10, 10, 10, 10, 10, 10, 0, 0, 0, 0, 0, 0, 0, 0, 0, 0, 0, 0, 0, 0, 0, 0, 0, 0, 0, 0, 0, 0, 10, 31, 1, 1, 10, 0, 0, 160, 0, 0, 0, 0, 0, 0, 0, 0, 0, 0, 0, 5, 6, 7, 8, 9, 10, 0, 0, 0, 0, 0, 1, 5, 1, 0, 0, 0, 0, 0, 0, 4, 1, 1, 2, 1, 3, 1, 4, 1]
theorem li_e37 : fDrw (fnL li_L33) 5 = fnL li_L34 := fn_eq 97 (by decide +kernel) (by decide +kernel) (hi_drw (hi_fn (by decide +kernel)))
def li_L35 : List Nat := [300, 12, 10, 10, 10, 10, 10, 10, 10, 10, 10, 10, 10, 10, 10, 10, 10, 10, 10, 10, 10, 10, 10, 10, 10, 10, 10, 0, 0, 0, 0, 0, 0, 0, 0, 0, 0, 0, 0, 0, 0, 0, 0, 0, 0, 0, 0, 0, 0, 5, 36, 1, 1, 10, 0, 0, 185, 0, 0, 0, 0, 0, 0, 0, 0, 0, 0, 0, 5, 6, 7, 8, 9, 10, 0, 0, 0, 0, 0, 1, 5, 1, 0, 0, 0, 0, 0, 0, 4, 1, 1, 2, 1, 3, 1, 4, 1]
theorem li_e38 : fDrw (fnL li_L34) 5 = fnL li_L35 := fn_eq 97 (by decide +kernel) (by decide +kernel) (hi_drw (hi_fn (by decide +kernel)))
def li_L36 : List Nat := [300, 12, 10, 10, 10, 10, 10, 10, 10, 10, 10, 10, 10, 10, 10, 10, 10, 10, 10, 10, 10, 10, 10, 10, 10, 10, 10, 0, 0, 0, 0, 0, 0, 0, 0, 0, 0, 0, 0, 0, 0, 0, 0, 0, 0, 0, 0, 0, 0, 0, 41, 1, 1, 10, 0, 0, 210, 0, 0, 0, 0, 0, 0, 0, 0, 0, 0, 0, 5, 6, 7, 8, 9, 10, 0, 0, 0, 0, 0, 1, 5, 1, 0, 0, 0, 0, 0, 0, 4, 1, 1, 2, 1, 3, 1, 4, 1]
theorem li_e39 : fDrw (fnL li_L35) 5 = fnL li_L36 := fn_eq 97 (by decide +kernel) (by decide +kernel) (hi_drw (hi_fn (by decide +kernel)))
def li_L37 : List Nat := [300, 12, 10, 10, 10, 10, 10, 10, 10, 10, 10, 10, 10, 10, 10, 10, 10, 10, 10, 10, 10, 10, 10, 10, 10, 10, 10, 0, 0, 0, 0, 0, 0, 0, 0, 0, 0, 0, 0, 0, 0, 0, 0, 0, 0, 0, 0, 0, 0, 0, 141, 1, 1, 10, 0, 0, 710, 0, 0, 0, 0, 0, 0, 0, 0, 0, 0, 0, 5, 6, 7, 8, 9, 10, 0, 0, 0, 0, 0, 1, 5, 1, 0, 0, 0, 0, 0, 0, 4, 1, 1, 2, 1, 3, 1, 4, 1]
theorem li_e40 : fPas (fnL li_L36) (nI 100) = fnL li_L37 := fn_eq 97 (by decide +kernel) (by decide +kernel) (hi_pas (hi_fn (by decide +kernel)))
set_option maxHeartbeats 8000000 in
set_option maxRecDepth 100000 in
theorem li_s3 {p : Program} {l : Launch} {e : Env} {s : State} {m : MethodId} {below : List Frame} {meth : Method} {c : Code} {G : eG} {lo : Nat} (hlt : l.stackTraces = false) (hL : LC cL_limits 3 wsL_limits p s m meth c ([] : List Value).toArray G lo) {q366 : Nat} {ff16 : Nat → Nat → Int32} {WC : va_W} {H : Heap} {locs : List Loc} {ls : Array Slot} (hX : XS G q366 (fnL li_L28) (fnL L0) ff16 4 6 0 (fnL T0) (nI 0) WC) (hR : PR 160000 (fnL li_L28) (fnL L0) ff16 4 6 0 (fnL T0) (nI 0)) (hP : va_P G.1 vwCl (WC ++ []) H) (hD : va_D (AA s) (WC ++ [])) (hS : va_S (AA s) s.heap H locs) (hl : lv_has ls 3 [(2, .int (nI 4)), (1, .ref q366)]) : W p l e ({ frames := 10, cells := 368, slots := 2936, locals := 193 }) s m ([] : List Value).toArray below meth c H locs 319 2642 (MQ below (MV (some (.int (nI 1))) (fun _ => True) (AA s)) ([] : List Value).toArray s 368 2936 (AA s)) (F0 m 564 ls []) := by
  have hL9 := hL
  obtain ⟨hx, hb, hml, hown, hts, hE, hJ0, hF0, hr, hlocks⟩ := hL
  have hAl : ∀ q, AA s q → lo ≤ q := fun q h => Nat.le_trans hJ0.1 h
  have hA : ∀ q : Nat, s.heap.size ≤ q → AA s q := fun _ h => h
  have hJ : JB lo s _ := hJ0.S hAl hS
  refine lv_aload_n hx hb dL_limits_564 rfl (lv_at hl 1 rfl) ?_
  refine lv_iconst (v := nI 1) hx hb dL_limits_565 (by decide +kernel) ?_
  refine lv_iconst (v := nI 4) hx hb dL_limits_566 (by decide +kernel) ?_
  refine lv_iconst (v := nI 0) hx hb dL_limits_567 (by decide +kernel) ?_
  refine cx0 (st1 := [.int ((-1))]) (va_runV (As := [.int (nI 1), .int (nI 4), .int (nI 0)]) (rest := []) ⟨hx, hb, hml, hown, hts⟩ (CX_deck_out l G hX hR (by decide) 1 4 (by decide +kernel) (by decide +kernel) 0 (by decide +kernel) (by decide +kernel)) (cwV 3 hts gL_limits_X5_deck rfl rfl rfl (by decide +kernel) ⟨Nat.le_of_ble_eq_true rfl, Nat.le_of_ble_eq_true rfl⟩) (PJ.preV hE hJ.jx (xs_recv hE.1 hX (P_pre hP)) ⟨P_pre hP, D_tr (D_pre hD)⟩) rfl rfl hl.1 rfl (lv_room (Nat.le_of_ble_eq_true rfl)) dL_limits_568 ⟨Nat.le_of_ble_eq_true rfl, Nat.le_of_ble_eq_true rfl⟩) hP hD hS hJ0 hAl rfl (fun WC H locs hX hP hD hS hJ => ?_)
  refine tI (y := (-1)) (by decide +kernel) ?_
  refine lv_iconst (v := -1) hx hb dL_limits_571 (by decide +kernel) ?_
  refine lv_icmp_ne (tgt := 601) hx hb dL_limits_572 (by decide) (fun h => absurd h (by decide +kernel)) (fun _ => ?_)
  refine lv_aload_n hx hb dL_limits_575 rfl (lv_at hl 1 rfl) ?_
  refine lv_iconst (v := nI 3) hx hb dL_limits_576 (by decide +kernel) ?_
  refine cx0 (st1 := [.int (fCnt (fnL li_L28) 6 3)]) (va_runV (As := [.int (nI 3)]) (rest := []) ⟨hx, hb, hml, hown, hts⟩ (CX_count_ok l G hX hR (by decide) 3 (by decide +kernel)) (cwV 1 hts gL_limits_X5_count rfl rfl rfl (by decide +kernel) ⟨Nat.le_of_ble_eq_true rfl, Nat.le_of_ble_eq_true rfl⟩) (PJ.preV hE hJ.jx (xs_recv hE.1 hX (P_pre hP)) ⟨P_pre hP, D_tr (D_pre hD)⟩) rfl rfl hl.1 rfl (lv_room (Nat.le_of_ble_eq_true rfl)) dL_limits_577 ⟨Nat.le_of_ble_eq_true rfl, Nat.le_of_ble_eq_true rfl⟩) hP hD hS hJ0 hAl rfl (fun WC H locs hX hP hD hS hJ => ?_)
  refine tI (y := nI 15) (by decide +kernel) ?_
  refine lv_bipush (v := nI 15) hx hb dL_limits_580 (by decide +kernel) ?_
  refine lv_icmp_ne (tgt := 601) hx hb dL_limits_582 (by decide) (fun h => absurd h (by decide +kernel)) (fun _ => ?_)
  refine lv_aload_n hx hb dL_limits_585 rfl (lv_at hl 1 rfl) ?_
  refine lv_iconst (v := nI 4) hx hb dL_limits_586 (by decide +kernel) ?_
  refine cx0 (st1 := [.int (fCnt (fnL li_L28) 6 4)]) (va_runV (As := [.int (nI 4)]) (rest := []) ⟨hx, hb, hml, hown, hts⟩ (CX_count_ok l G hX hR (by decide) 4 (by decide +kernel)) (cwV 1 hts gL_limits_X5_count rfl rfl rfl (by decide +kernel) ⟨Nat.le_of_ble_eq_true rfl, Nat.le_of_ble_eq_true rfl⟩) (PJ.preV hE hJ.jx (xs_recv hE.1 hX (P_pre hP)) ⟨P_pre hP, D_tr (D_pre hD)⟩) rfl rfl hl.1 rfl (lv_room (Nat.le_of_ble_eq_true rfl)) dL_limits_587 ⟨Nat.le_of_ble_eq_true rfl, Nat.le_of_ble_eq_true rfl⟩) hP hD hS hJ0 hAl rfl (fun WC H locs hX hP hD hS hJ => ?_)
  refine tI (y := nI 5) (by decide +kernel) ?_
  refine lv_iconst (v := nI 5) hx hb dL_limits_590 (by decide +kernel) ?_
  refine lv_icmp_ne (tgt := 601) hx hb dL_limits_591 (by decide) (fun h => absurd h (by decide +kernel)) (fun _ => ?_)
  refine lv_aload_n hx hb dL_limits_594 rfl (lv_at hl 1 rfl) ?_
  refine cxc (st1 := [.int (nI 1)]) (va_runS (As := [.ref q366]) (rest := []) ⟨hx, hb, hml, hown, hts⟩ (K_refused l hlt G hX hR (by decide)) (va_cwS 1 hts gL_limits_L_refused rfl rfl rfl (by decide +kernel) ⟨Nat.le_of_ble_eq_true rfl, Nat.le_of_ble_eq_true rfl⟩) (PK.preS hE hJ ⟨P_pre hP, D_al hAl (D_pre hD)⟩) rfl rfl hl.1 rfl (lv_room (Nat.le_of_ble_eq_true rfl)) dL_limits_595 ⟨Nat.le_of_ble_eq_true rfl, Nat.le_of_ble_eq_true rfl⟩) hP hD hS hJ0 hAl rfl (fun WC H locs hX hP hD hS hJ => ?_)
  refine lv_if_ne (tgt := 603) hx hb dL_limits_598 (by decide) (fun _ => ?_) (fun h => absurd h (by decide +kernel))
  refine lv_iconst (v := nI 0) hx hb dL_limits_603 (by decide +kernel) ?_
  refine lv_istore_n (lv' := [(2, .int (nI 0)), (1, .ref q366)]) hx hb dL_limits_604 rfl hl (by decide) rfl (fun ls hl => ?_)
  refine lv_iload_n hx hb dL_limits_605 rfl (lv_at hl 0 rfl) ?_
  refine lv_bipush (v := nI 8) hx hb dL_limits_606 (by decide +kernel) ?_
  refine lv_icmp_ge (tgt := 633) hx hb dL_limits_608 (by decide) (fun h => absurd h (by decide +kernel)) (fun _ => ?_)
  refine lv_aload_n hx hb dL_limits_611 rfl (lv_at hl 1 rfl) ?_
  refine lv_iconst (v := nI 5) hx hb dL_limits_612 (by decide +kernel) ?_
  refine cx0 (st1 := [.int ((fnL li_L28) 49 - nI 5)]) (va_runV (As := [.int (nI 5)]) (rest := []) ⟨hx, hb, hml, hown, hts⟩ (CX_draw_ok l G hX hR (by decide) hR.1.2.2.1.2.2.1 5 (by decide +kernel) (by decide +kernel) (by decide +kernel)) (cwV 1 hts gL_limits_X5_draw rfl rfl rfl (by decide +kernel) ⟨Nat.le_of_ble_eq_true rfl, Nat.le_of_ble_eq_true rfl⟩) (PJ.preV hE hJ.jx (xs_recv hE.1 hX (P_pre hP)) ⟨P_pre hP, D_tr (D_pre hD)⟩) rfl rfl hl.1 rfl (lv_room (Nat.le_of_ble_eq_true rfl)) dL_limits_613 ⟨Nat.le_of_ble_eq_true rfl, Nat.le_of_ble_eq_true rfl⟩) hP hD hS hJ0 hAl rfl (fun WC H locs hX hP hD hS hJ => ?_)
  have hR := PR_sav (B' := 170000) (f' := fDrw (fnL li_L28) 5) (by decide) hR (okf_mono (by decide) (okf_drw (by decide) (by decide) (by decide +kernel) hR.1))
  rw [li_e32] at hX hR
  replace hX : XS G q366 (fnL li_L29) (fnL L0) (rgS ff16 4 (fnL li_L28)) 5 6 0 (fnL T0) (nI 0) WC := hX
  replace hR : PR 170000 (fnL li_L29) (fnL L0) (rgS ff16 4 (fnL li_L28)) 5 6 0 (fnL T0) (nI 0) := hR
  obtain ⟨ff17, hff17⟩ : ∃ F, F = rgS ff16 4 (fnL li_L28) := ⟨_, rfl⟩
  rw [← hff17] at hX hR
  refine tI (y := nI 35) (by decide +kernel) ?_
  refine lv_bipush (v := nI 35) hx hb dL_limits_616 (by decide +kernel) ?_
  refine lv_iconst (v := nI 5) hx hb dL_limits_618 (by decide +kernel) ?_
  refine lv_iload_n hx hb dL_limits_619 rfl (lv_at hl 0 rfl) ?_
  refine lv_imul hx hb dL_limits_620 ?_
  refine tI (y := nI 0) (by decide +kernel) ?_
  refine lv_isub hx hb dL_limits_621 ?_
  refine tI (y := nI 35) (by decide +kernel) ?_
  refine lv_icmp_eq (tgt := 627) hx hb dL_limits_622 (by decide) (fun _ => ?_) (fun h => absurd h (by decide +kernel))
  refine lv_iinc (v := nI 1) (lv' := [(2, .int (nI 1)), (1, .ref q366)]) hx hb dL_limits_627 hl (k := 0) rfl (by decide +kernel) (by decide) rfl (fun ls hl => ?_)
  refine lv_goto (tgt := 605) hx hb dL_limits_630 (by decide) ?_
  refine lv_iload_n hx hb dL_limits_605 rfl (lv_at hl 0 rfl) ?_
  refine lv_bipush (v := nI 8) hx hb dL_limits_606 (by decide +kernel) ?_
  refine lv_icmp_ge (tgt := 633) hx hb dL_limits_608 (by decide) (fun h => absurd h (by decide +kernel)) (fun _ => ?_)
  refine lv_aload_n hx hb dL_limits_611 rfl (lv_at hl 1 rfl) ?_
  refine lv_iconst (v := nI 5) hx hb dL_limits_612 (by decide +kernel) ?_
  refine cx0 (st1 := [.int ((fnL li_L29) 49 - nI 5)]) (va_runV (As := [.int (nI 5)]) (rest := []) ⟨hx, hb, hml, hown, hts⟩ (CX_draw_ok l G hX hR (by decide) hR.1.2.2.1.2.2.1 5 (by decide +kernel) (by decide +kernel) (by decide +kernel)) (cwV 1 hts gL_limits_X5_draw rfl rfl rfl (by decide +kernel) ⟨Nat.le_of_ble_eq_true rfl, Nat.le_of_ble_eq_true rfl⟩) (PJ.preV hE hJ.jx (xs_recv hE.1 hX (P_pre hP)) ⟨P_pre hP, D_tr (D_pre hD)⟩) rfl rfl hl.1 rfl (lv_room (Nat.le_of_ble_eq_true rfl)) dL_limits_613 ⟨Nat.le_of_ble_eq_true rfl, Nat.le_of_ble_eq_true rfl⟩) hP hD hS hJ0 hAl rfl (fun WC H locs hX hP hD hS hJ => ?_)
  have hR := PR_sav (B' := 180000) (f' := fDrw (fnL li_L29) 5) (by decide) hR (okf_mono (by decide) (okf_drw (by decide) (by decide) (by decide +kernel) hR.1))
  rw [li_e33] at hX hR
  replace hX : XS G q366 (fnL li_L30) (fnL L0) (rgS ff17 5 (fnL li_L29)) 0 6 0 (fnL T0) (nI 0) WC := hX
  replace hR : PR 180000 (fnL li_L30) (fnL L0) (rgS ff17 5 (fnL li_L29)) 0 6 0 (fnL T0) (nI 0) := hR
  obtain ⟨ff18, hff18⟩ : ∃ F, F = rgS ff17 5 (fnL li_L29) := ⟨_, rfl⟩
  rw [← hff18] at hX hR
  refine tI (y := nI 30) (by decide +kernel) ?_
  refine lv_bipush (v := nI 35) hx hb dL_limits_616 (by decide +kernel) ?_
  refine lv_iconst (v := nI 5) hx hb dL_limits_618 (by decide +kernel) ?_
  refine lv_iload_n hx hb dL_limits_619 rfl (lv_at hl 0 rfl) ?_
  refine lv_imul hx hb dL_limits_620 ?_
  refine tI (y := nI 5) (by decide +kernel) ?_
  refine lv_isub hx hb dL_limits_621 ?_
  refine tI (y := nI 30) (by decide +kernel) ?_
  refine lv_icmp_eq (tgt := 627) hx hb dL_limits_622 (by decide) (fun _ => ?_) (fun h => absurd h (by decide +kernel))
  refine lv_iinc (v := nI 2) (lv' := [(2, .int (nI 2)), (1, .ref q366)]) hx hb dL_limits_627 hl (k := 0) rfl (by decide +kernel) (by decide) rfl (fun ls hl => ?_)
  refine lv_goto (tgt := 605) hx hb dL_limits_630 (by decide) ?_
  refine lv_iload_n hx hb dL_limits_605 rfl (lv_at hl 0 rfl) ?_
  refine lv_bipush (v := nI 8) hx hb dL_limits_606 (by decide +kernel) ?_
  refine lv_icmp_ge (tgt := 633) hx hb dL_limits_608 (by decide) (fun h => absurd h (by decide +kernel)) (fun _ => ?_)
  refine lv_aload_n hx hb dL_limits_611 rfl (lv_at hl 1 rfl) ?_
  refine lv_iconst (v := nI 5) hx hb dL_limits_612 (by decide +kernel) ?_
  refine cx0 (st1 := [.int ((fnL li_L30) 49 - nI 5)]) (va_runV (As := [.int (nI 5)]) (rest := []) ⟨hx, hb, hml, hown, hts⟩ (CX_draw_ok l G hX hR (by decide) hR.1.2.2.1.2.2.1 5 (by decide +kernel) (by decide +kernel) (by decide +kernel)) (cwV 1 hts gL_limits_X5_draw rfl rfl rfl (by decide +kernel) ⟨Nat.le_of_ble_eq_true rfl, Nat.le_of_ble_eq_true rfl⟩) (PJ.preV hE hJ.jx (xs_recv hE.1 hX (P_pre hP)) ⟨P_pre hP, D_tr (D_pre hD)⟩) rfl rfl hl.1 rfl (lv_room (Nat.le_of_ble_eq_true rfl)) dL_limits_613 ⟨Nat.le_of_ble_eq_true rfl, Nat.le_of_ble_eq_true rfl⟩) hP hD hS hJ0 hAl rfl (fun WC H locs hX hP hD hS hJ => ?_)
  have hR := PR_sav (B' := 190000) (f' := fDrw (fnL li_L30) 5) (by decide) hR (okf_mono (by decide) (okf_drw (by decide) (by decide) (by decide +kernel) hR.1))
  rw [li_e34] at hX hR
  replace hX : XS G q366 (fnL li_L31) (fnL L0) (rgS ff18 0 (fnL li_L30)) 1 6 0 (fnL T0) (nI 0) WC := hX
  replace hR : PR 190000 (fnL li_L31) (fnL L0) (rgS ff18 0 (fnL li_L30)) 1 6 0 (fnL T0) (nI 0) := hR
  obtain ⟨ff19, hff19⟩ : ∃ F, F = rgS ff18 0 (fnL li_L30) := ⟨_, rfl⟩
  rw [← hff19] at hX hR
  refine tI (y := nI 25) (by decide +kernel) ?_
  refine lv_bipush (v := nI 35) hx hb dL_limits_616 (by decide +kernel) ?_
  refine lv_iconst (v := nI 5) hx hb dL_limits_618 (by decide +kernel) ?_
  refine lv_iload_n hx hb dL_limits_619 rfl (lv_at hl 0 rfl) ?_
  refine lv_imul hx hb dL_limits_620 ?_
  refine tI (y := nI 10) (by decide +kernel) ?_
  refine lv_isub hx hb dL_limits_621 ?_
  refine tI (y := nI 25) (by decide +kernel) ?_
  refine lv_icmp_eq (tgt := 627) hx hb dL_limits_622 (by decide) (fun _ => ?_) (fun h => absurd h (by decide +kernel))
  refine lv_iinc (v := nI 3) (lv' := [(2, .int (nI 3)), (1, .ref q366)]) hx hb dL_limits_627 hl (k := 0) rfl (by decide +kernel) (by decide) rfl (fun ls hl => ?_)
  refine lv_goto (tgt := 605) hx hb dL_limits_630 (by decide) ?_
  refine lv_iload_n hx hb dL_limits_605 rfl (lv_at hl 0 rfl) ?_
  refine lv_bipush (v := nI 8) hx hb dL_limits_606 (by decide +kernel) ?_
  refine lv_icmp_ge (tgt := 633) hx hb dL_limits_608 (by decide) (fun h => absurd h (by decide +kernel)) (fun _ => ?_)
  refine lv_aload_n hx hb dL_limits_611 rfl (lv_at hl 1 rfl) ?_
  refine lv_iconst (v := nI 5) hx hb dL_limits_612 (by decide +kernel) ?_
  refine cx0 (st1 := [.int ((fnL li_L31) 49 - nI 5)]) (va_runV (As := [.int (nI 5)]) (rest := []) ⟨hx, hb, hml, hown, hts⟩ (CX_draw_ok l G hX hR (by decide) hR.1.2.2.1.2.2.1 5 (by decide +kernel) (by decide +kernel) (by decide +kernel)) (cwV 1 hts gL_limits_X5_draw rfl rfl rfl (by decide +kernel) ⟨Nat.le_of_ble_eq_true rfl, Nat.le_of_ble_eq_true rfl⟩) (PJ.preV hE hJ.jx (xs_recv hE.1 hX (P_pre hP)) ⟨P_pre hP, D_tr (D_pre hD)⟩) rfl rfl hl.1 rfl (lv_room (Nat.le_of_ble_eq_true rfl)) dL_limits_613 ⟨Nat.le_of_ble_eq_true rfl, Nat.le_of_ble_eq_true rfl⟩) hP hD hS hJ0 hAl rfl (fun WC H locs hX hP hD hS hJ => ?_)
  have hR := PR_sav (B' := 200000) (f' := fDrw (fnL li_L31) 5) (by decide) hR (okf_mono (by decide) (okf_drw (by decide) (by decide) (by decide +kernel) hR.1))
  rw [li_e35] at hX hR
  replace hX : XS G q366 (fnL li_L32) (fnL L0) (rgS ff19 1 (fnL li_L31)) 2 6 0 (fnL T0) (nI 0) WC := hX
  replace hR : PR 200000 (fnL li_L32) (fnL L0) (rgS ff19 1 (fnL li_L31)) 2 6 0 (fnL T0) (nI 0) := hR
  obtain ⟨ff20, hff20⟩ : ∃ F, F = rgS ff19 1 (fnL li_L31) := ⟨_, rfl⟩
  rw [← hff20] at hX hR
  refine tI (y := nI 20) (by decide +kernel) ?_
  refine lv_bipush (v := nI 35) hx hb dL_limits_616 (by decide +kernel) ?_
  refine lv_iconst (v := nI 5) hx hb dL_limits_618 (by decide +kernel) ?_
  refine lv_iload_n hx hb dL_limits_619 rfl (lv_at hl 0 rfl) ?_
  refine lv_imul hx hb dL_limits_620 ?_
  refine tI (y := nI 15) (by decide +kernel) ?_
  refine lv_isub hx hb dL_limits_621 ?_
  refine tI (y := nI 20) (by decide +kernel) ?_
  refine lv_icmp_eq (tgt := 627) hx hb dL_limits_622 (by decide) (fun _ => ?_) (fun h => absurd h (by decide +kernel))
  refine lv_iinc (v := nI 4) (lv' := [(2, .int (nI 4)), (1, .ref q366)]) hx hb dL_limits_627 hl (k := 0) rfl (by decide +kernel) (by decide) rfl (fun ls hl => ?_)
  refine lv_goto (tgt := 605) hx hb dL_limits_630 (by decide) ?_
  refine lv_iload_n hx hb dL_limits_605 rfl (lv_at hl 0 rfl) ?_
  refine lv_bipush (v := nI 8) hx hb dL_limits_606 (by decide +kernel) ?_
  refine lv_icmp_ge (tgt := 633) hx hb dL_limits_608 (by decide) (fun h => absurd h (by decide +kernel)) (fun _ => ?_)
  refine lv_aload_n hx hb dL_limits_611 rfl (lv_at hl 1 rfl) ?_
  refine lv_iconst (v := nI 5) hx hb dL_limits_612 (by decide +kernel) ?_
  refine cx0 (st1 := [.int ((fnL li_L32) 49 - nI 5)]) (va_runV (As := [.int (nI 5)]) (rest := []) ⟨hx, hb, hml, hown, hts⟩ (CX_draw_ok l G hX hR (by decide) hR.1.2.2.1.2.2.1 5 (by decide +kernel) (by decide +kernel) (by decide +kernel)) (cwV 1 hts gL_limits_X5_draw rfl rfl rfl (by decide +kernel) ⟨Nat.le_of_ble_eq_true rfl, Nat.le_of_ble_eq_true rfl⟩) (PJ.preV hE hJ.jx (xs_recv hE.1 hX (P_pre hP)) ⟨P_pre hP, D_tr (D_pre hD)⟩) rfl rfl hl.1 rfl (lv_room (Nat.le_of_ble_eq_true rfl)) dL_limits_613 ⟨Nat.le_of_ble_eq_true rfl, Nat.le_of_ble_eq_true rfl⟩) hP hD hS hJ0 hAl rfl (fun WC H locs hX hP hD hS hJ => ?_)
  have hR := PR_sav (B' := 210000) (f' := fDrw (fnL li_L32) 5) (by decide) hR (okf_mono (by decide) (okf_drw (by decide) (by decide) (by decide +kernel) hR.1))
  rw [li_e36] at hX hR
  replace hX : XS G q366 (fnL li_L33) (fnL L0) (rgS ff20 2 (fnL li_L32)) 3 6 0 (fnL T0) (nI 0) WC := hX
  replace hR : PR 210000 (fnL li_L33) (fnL L0) (rgS ff20 2 (fnL li_L32)) 3 6 0 (fnL T0) (nI 0) := hR
  obtain ⟨ff21, hff21⟩ : ∃ F, F = rgS ff20 2 (fnL li_L32) := ⟨_, rfl⟩
  rw [← hff21] at hX hR
  refine tI (y := nI 15) (by decide +kernel) ?_
  refine lv_bipush (v := nI 35) hx hb dL_limits_616 (by decide +kernel) ?_
  refine lv_iconst (v := nI 5) hx hb dL_limits_618 (by decide +kernel) ?_
  refine lv_iload_n hx hb dL_limits_619 rfl (lv_at hl 0 rfl) ?_
  refine lv_imul hx hb dL_limits_620 ?_
  refine tI (y := nI 20) (by decide +kernel) ?_
  refine lv_isub hx hb dL_limits_621 ?_
  refine tI (y := nI 15) (by decide +kernel) ?_
  refine lv_icmp_eq (tgt := 627) hx hb dL_limits_622 (by decide) (fun _ => ?_) (fun h => absurd h (by decide +kernel))
  refine lv_iinc (v := nI 5) (lv' := [(2, .int (nI 5)), (1, .ref q366)]) hx hb dL_limits_627 hl (k := 0) rfl (by decide +kernel) (by decide) rfl (fun ls hl => ?_)
  refine lv_goto (tgt := 605) hx hb dL_limits_630 (by decide) ?_
  refine lv_iload_n hx hb dL_limits_605 rfl (lv_at hl 0 rfl) ?_
  refine lv_bipush (v := nI 8) hx hb dL_limits_606 (by decide +kernel) ?_
  refine lv_icmp_ge (tgt := 633) hx hb dL_limits_608 (by decide) (fun h => absurd h (by decide +kernel)) (fun _ => ?_)
  refine lv_aload_n hx hb dL_limits_611 rfl (lv_at hl 1 rfl) ?_
  refine lv_iconst (v := nI 5) hx hb dL_limits_612 (by decide +kernel) ?_
  refine cx0 (st1 := [.int ((fnL li_L33) 49 - nI 5)]) (va_runV (As := [.int (nI 5)]) (rest := []) ⟨hx, hb, hml, hown, hts⟩ (CX_draw_ok l G hX hR (by decide) hR.1.2.2.1.2.2.1 5 (by decide +kernel) (by decide +kernel) (by decide +kernel)) (cwV 1 hts gL_limits_X5_draw rfl rfl rfl (by decide +kernel) ⟨Nat.le_of_ble_eq_true rfl, Nat.le_of_ble_eq_true rfl⟩) (PJ.preV hE hJ.jx (xs_recv hE.1 hX (P_pre hP)) ⟨P_pre hP, D_tr (D_pre hD)⟩) rfl rfl hl.1 rfl (lv_room (Nat.le_of_ble_eq_true rfl)) dL_limits_613 ⟨Nat.le_of_ble_eq_true rfl, Nat.le_of_ble_eq_true rfl⟩) hP hD hS hJ0 hAl rfl (fun WC H locs hX hP hD hS hJ => ?_)
  have hR := PR_sav (B' := 220000) (f' := fDrw (fnL li_L33) 5) (by decide) hR (okf_mono (by decide) (okf_drw (by decide) (by decide) (by decide +kernel) hR.1))
  rw [li_e37] at hX hR
  replace hX : XS G q366 (fnL li_L34) (fnL L0) (rgS ff21 3 (fnL li_L33)) 4 6 0 (fnL T0) (nI 0) WC := hX
  replace hR : PR 220000 (fnL li_L34) (fnL L0) (rgS ff21 3 (fnL li_L33)) 4 6 0 (fnL T0) (nI 0) := hR
  obtain ⟨ff22, hff22⟩ : ∃ F, F = rgS ff21 3 (fnL li_L33) := ⟨_, rfl⟩
  rw [← hff22] at hX hR
  refine tI (y := nI 10) (by decide +kernel) ?_
  refine lv_bipush (v := nI 35) hx hb dL_limits_616 (by decide +kernel) ?_
  refine lv_iconst (v := nI 5) hx hb dL_limits_618 (by decide +kernel) ?_
  refine lv_iload_n hx hb dL_limits_619 rfl (lv_at hl 0 rfl) ?_
  refine lv_imul hx hb dL_limits_620 ?_
  refine tI (y := nI 25) (by decide +kernel) ?_
  refine lv_isub hx hb dL_limits_621 ?_
  refine tI (y := nI 10) (by decide +kernel) ?_
  refine lv_icmp_eq (tgt := 627) hx hb dL_limits_622 (by decide) (fun _ => ?_) (fun h => absurd h (by decide +kernel))
  refine lv_iinc (v := nI 6) (lv' := [(2, .int (nI 6)), (1, .ref q366)]) hx hb dL_limits_627 hl (k := 0) rfl (by decide +kernel) (by decide) rfl (fun ls hl => ?_)
  refine lv_goto (tgt := 605) hx hb dL_limits_630 (by decide) ?_
  refine lv_iload_n hx hb dL_limits_605 rfl (lv_at hl 0 rfl) ?_
  refine lv_bipush (v := nI 8) hx hb dL_limits_606 (by decide +kernel) ?_
  refine lv_icmp_ge (tgt := 633) hx hb dL_limits_608 (by decide) (fun h => absurd h (by decide +kernel)) (fun _ => ?_)
  refine lv_aload_n hx hb dL_limits_611 rfl (lv_at hl 1 rfl) ?_
  refine lv_iconst (v := nI 5) hx hb dL_limits_612 (by decide +kernel) ?_
  refine cx0 (st1 := [.int ((fnL li_L34) 49 - nI 5)]) (va_runV (As := [.int (nI 5)]) (rest := []) ⟨hx, hb, hml, hown, hts⟩ (CX_draw_ok l G hX hR (by decide) hR.1.2.2.1.2.2.1 5 (by decide +kernel) (by decide +kernel) (by decide +kernel)) (cwV 1 hts gL_limits_X5_draw rfl rfl rfl (by decide +kernel) ⟨Nat.le_of_ble_eq_true rfl, Nat.le_of_ble_eq_true rfl⟩) (PJ.preV hE hJ.jx (xs_recv hE.1 hX (P_pre hP)) ⟨P_pre hP, D_tr (D_pre hD)⟩) rfl rfl hl.1 rfl (lv_room (Nat.le_of_ble_eq_true rfl)) dL_limits_613 ⟨Nat.le_of_ble_eq_true rfl, Nat.le_of_ble_eq_true rfl⟩) hP hD hS hJ0 hAl rfl (fun WC H locs hX hP hD hS hJ => ?_)
  have hR := PR_sav (B' := 230000) (f' := fDrw (fnL li_L34) 5) (by decide) hR (okf_mono (by decide) (okf_drw (by decide) (by decide) (by decide +kernel) hR.1))
  rw [li_e38] at hX hR
  replace hX : XS G q366 (fnL li_L35) (fnL L0) (rgS ff22 4 (fnL li_L34)) 5 6 0 (fnL T0) (nI 0) WC := hX
  replace hR : PR 230000 (fnL li_L35) (fnL L0) (rgS ff22 4 (fnL li_L34)) 5 6 0 (fnL T0) (nI 0) := hR
  obtain ⟨ff23, hff23⟩ : ∃ F, F = rgS ff22 4 (fnL li_L34) := ⟨_, rfl⟩
  rw [← hff23] at hX hR
  refine tI (y := nI 5) (by decide +kernel) ?_
  refine lv_bipush (v := nI 35) hx hb dL_limits_616 (by decide +kernel) ?_
  refine lv_iconst (v := nI 5) hx hb dL_limits_618 (by decide +kernel) ?_
  refine lv_iload_n hx hb dL_limits_619 rfl (lv_at hl 0 rfl) ?_
  refine lv_imul hx hb dL_limits_620 ?_
  refine tI (y := nI 30) (by decide +kernel) ?_
  refine lv_isub hx hb dL_limits_621 ?_
  refine tI (y := nI 5) (by decide +kernel) ?_
  refine lv_icmp_eq (tgt := 627) hx hb dL_limits_622 (by decide) (fun _ => ?_) (fun h => absurd h (by decide +kernel))
  refine lv_iinc (v := nI 7) (lv' := [(2, .int (nI 7)), (1, .ref q366)]) hx hb dL_limits_627 hl (k := 0) rfl (by decide +kernel) (by decide) rfl (fun ls hl => ?_)
  refine lv_goto (tgt := 605) hx hb dL_limits_630 (by decide) ?_
  refine lv_iload_n hx hb dL_limits_605 rfl (lv_at hl 0 rfl) ?_
  refine lv_bipush (v := nI 8) hx hb dL_limits_606 (by decide +kernel) ?_
  refine lv_icmp_ge (tgt := 633) hx hb dL_limits_608 (by decide) (fun h => absurd h (by decide +kernel)) (fun _ => ?_)
  refine lv_aload_n hx hb dL_limits_611 rfl (lv_at hl 1 rfl) ?_
  refine lv_iconst (v := nI 5) hx hb dL_limits_612 (by decide +kernel) ?_
  refine cx0 (st1 := [.int ((fnL li_L35) 49 - nI 5)]) (va_runV (As := [.int (nI 5)]) (rest := []) ⟨hx, hb, hml, hown, hts⟩ (CX_draw_ok l G hX hR (by decide) hR.1.2.2.1.2.2.1 5 (by decide +kernel) (by decide +kernel) (by decide +kernel)) (cwV 1 hts gL_limits_X5_draw rfl rfl rfl (by decide +kernel) ⟨Nat.le_of_ble_eq_true rfl, Nat.le_of_ble_eq_true rfl⟩) (PJ.preV hE hJ.jx (xs_recv hE.1 hX (P_pre hP)) ⟨P_pre hP, D_tr (D_pre hD)⟩) rfl rfl hl.1 rfl (lv_room (Nat.le_of_ble_eq_true rfl)) dL_limits_613 ⟨Nat.le_of_ble_eq_true rfl, Nat.le_of_ble_eq_true rfl⟩) hP hD hS hJ0 hAl rfl (fun WC H locs hX hP hD hS hJ => ?_)
  have hR := PR_sav (B' := 240000) (f' := fDrw (fnL li_L35) 5) (by decide) hR (okf_mono (by decide) (okf_drw (by decide) (by decide) (by decide +kernel) hR.1))
  rw [li_e39] at hX hR
  replace hX : XS G q366 (fnL li_L36) (fnL L0) (rgS ff23 5 (fnL li_L35)) 0 6 0 (fnL T0) (nI 0) WC := hX
  replace hR : PR 240000 (fnL li_L36) (fnL L0) (rgS ff23 5 (fnL li_L35)) 0 6 0 (fnL T0) (nI 0) := hR
  obtain ⟨ff24, hff24⟩ : ∃ F, F = rgS ff23 5 (fnL li_L35) := ⟨_, rfl⟩
  rw [← hff24] at hX hR
  refine tI (y := nI 0) (by decide +kernel) ?_
  refine lv_bipush (v := nI 35) hx hb dL_limits_616 (by decide +kernel) ?_
  refine lv_iconst (v := nI 5) hx hb dL_limits_618 (by decide +kernel) ?_
  refine lv_iload_n hx hb dL_limits_619 rfl (lv_at hl 0 rfl) ?_
  refine lv_imul hx hb dL_limits_620 ?_
  refine tI (y := nI 35) (by decide +kernel) ?_
  refine lv_isub hx hb dL_limits_621 ?_
  refine tI (y := nI 0) (by decide +kernel) ?_
  refine lv_icmp_eq (tgt := 627) hx hb dL_limits_622 (by decide) (fun _ => ?_) (fun h => absurd h (by decide +kernel))
  refine lv_iinc (v := nI 8) (lv' := [(2, .int (nI 8)), (1, .ref q366)]) hx hb dL_limits_627 hl (k := 0) rfl (by decide +kernel) (by decide) rfl (fun ls hl => ?_)
  refine lv_goto (tgt := 605) hx hb dL_limits_630 (by decide) ?_
  refine lv_iload_n hx hb dL_limits_605 rfl (lv_at hl 0 rfl) ?_
  refine lv_bipush (v := nI 8) hx hb dL_limits_606 (by decide +kernel) ?_
  refine lv_icmp_ge (tgt := 633) hx hb dL_limits_608 (by decide) (fun _ => ?_) (fun h => absurd h (by decide +kernel))
  refine lv_aload_n hx hb dL_limits_633 rfl (lv_at hl 1 rfl) ?_
  refine lv_iconst (v := nI 5) hx hb dL_limits_634 (by decide +kernel) ?_
  refine lv_iconst (v := nI 1) hx hb dL_limits_635 (by decide +kernel) ?_
  refine lv_iconst (v := nI 0) hx hb dL_limits_636 (by decide +kernel) ?_
  refine cxc (st1 := [.int (-13)]) (vx_runSW (As := [.ref q366, .int (nI 5), .int (nI 1), .int (nI 0)]) (rest := []) ⟨hx, hb, hml, hown, hts⟩ (CC_draw_e2 l hlt G hX hR (by decide) hR.1.2.2.1.2.2.1 1 (by decide +kernel) (by decide +kernel) (by decide +kernel) (nI 0)) (vx_cwSW 4 hts gL_limits_L_call rfl rfl rfl (by decide +kernel) ⟨Nat.le_of_ble_eq_true rfl, Nat.le_of_ble_eq_true rfl⟩) (PK.preS hE hJ ⟨P_pre hP, D_al hAl (D_pre hD)⟩) rfl rfl hl.1 rfl (lv_room (Nat.le_of_ble_eq_true rfl)) dL_limits_637 ⟨Nat.le_of_ble_eq_true rfl, Nat.le_of_ble_eq_true rfl⟩) hP hD hS hJ0 hAl rfl (fun WC H locs hX hP hD hS hJ => ?_)
  refine lv_bipush (v := -13) hx hb dL_limits_640 (by decide +kernel) ?_
  refine lv_icmp_ne (tgt := 683) hx hb dL_limits_642 (by decide) (fun h => absurd h (by decide +kernel)) (fun _ => ?_)
  refine lv_aload_n hx hb dL_limits_645 rfl (lv_at hl 1 rfl) ?_
  refine lv_iconst (v := nI 0) hx hb dL_limits_646 (by decide +kernel) ?_
  refine cx0 (st1 := [.int (fCnt (fnL li_L36) 6 0)]) (va_runV (As := [.int (nI 0)]) (rest := []) ⟨hx, hb, hml, hown, hts⟩ (CX_count_ok l G hX hR (by decide) 0 (by decide +kernel)) (cwV 1 hts gL_limits_X5_count rfl rfl rfl (by decide +kernel) ⟨Nat.le_of_ble_eq_true rfl, Nat.le_of_ble_eq_true rfl⟩) (PJ.preV hE hJ.jx (xs_recv hE.1 hX (P_pre hP)) ⟨P_pre hP, D_tr (D_pre hD)⟩) rfl rfl hl.1 rfl (lv_room (Nat.le_of_ble_eq_true rfl)) dL_limits_647 ⟨Nat.le_of_ble_eq_true rfl, Nat.le_of_ble_eq_true rfl⟩) hP hD hS hJ0 hAl rfl (fun WC H locs hX hP hD hS hJ => ?_)
  refine tI (y := nI 41) (by decide +kernel) ?_
  refine lv_bipush (v := nI 41) hx hb dL_limits_650 (by decide +kernel) ?_
  refine lv_icmp_ne (tgt := 683) hx hb dL_limits_652 (by decide) (fun h => absurd h (by decide +kernel)) (fun _ => ?_)
  refine lv_aload_n hx hb dL_limits_655 rfl (lv_at hl 1 rfl) ?_
  refine lv_bipush (v := nI 100) hx hb dL_limits_656 (by decide +kernel) ?_
  refine cx0 (st1 := [.int ((fnL li_L36) 50 + nI 100)]) (va_runV (As := [.int (nI 100)]) (rest := []) ⟨hx, hb, hml, hown, hts⟩ (CX_pass_ok l G hX hR (by decide) 100 (by decide +kernel) (by decide +kernel)) (cwV 1 hts gL_limits_X5_pass rfl rfl rfl (by decide +kernel) ⟨Nat.le_of_ble_eq_true rfl, Nat.le_of_ble_eq_true rfl⟩) (PJ.preV hE hJ.jx (xs_recv hE.1 hX (P_pre hP)) ⟨P_pre hP, D_tr (D_pre hD)⟩) rfl rfl hl.1 rfl (lv_room (Nat.le_of_ble_eq_true rfl)) dL_limits_658 ⟨Nat.le_of_ble_eq_true rfl, Nat.le_of_ble_eq_true rfl⟩) hP hD hS hJ0 hAl rfl (fun WC H locs hX hP hD hS hJ => ?_)
  have hR := PR_sav (B' := 250000) (f' := fPas (fnL li_L36) (nI 100)) (by decide) hR (okf_mono (by decide) (okf_pas (by decide) (by decide) hR.1))
  rw [li_e40] at hX hR
  replace hX : XS G q366 (fnL li_L37) (fnL L0) (rgS ff24 0 (fnL li_L36)) 1 6 0 (fnL T0) (nI 0) WC := hX
  replace hR : PR 250000 (fnL li_L37) (fnL L0) (rgS ff24 0 (fnL li_L36)) 1 6 0 (fnL T0) (nI 0) := hR
  obtain ⟨ff25, hff25⟩ : ∃ F, F = rgS ff24 0 (fnL li_L36) := ⟨_, rfl⟩
  rw [← hff25] at hX hR
  refine tI (y := nI 141) (by decide +kernel) ?_
  refine lv_sipush (v := nI 141) hx hb dL_limits_661 (by decide +kernel) ?_
  refine lv_icmp_ne (tgt := 683) hx hb dL_limits_664 (by decide) (fun h => absurd h (by decide +kernel)) (fun _ => ?_)
  refine lv_aload_n hx hb dL_limits_667 rfl (lv_at hl 1 rfl) ?_
  refine lv_bipush (v := nI 12) hx hb dL_limits_668 (by decide +kernel) ?_
  refine cx0 (st1 := [.int (fCnt (fnL li_L37) 6 12)]) (va_runV (As := [.int (nI 12)]) (rest := []) ⟨hx, hb, hml, hown, hts⟩ (CX_count_ok l G hX hR (by decide) 12 (by decide +kernel)) (cwV 1 hts gL_limits_X5_count rfl rfl rfl (by decide +kernel) ⟨Nat.le_of_ble_eq_true rfl, Nat.le_of_ble_eq_true rfl⟩) (PJ.preV hE hJ.jx (xs_recv hE.1 hX (P_pre hP)) ⟨P_pre hP, D_tr (D_pre hD)⟩) rfl rfl hl.1 rfl (lv_room (Nat.le_of_ble_eq_true rfl)) dL_limits_670 ⟨Nat.le_of_ble_eq_true rfl, Nat.le_of_ble_eq_true rfl⟩) hP hD hS hJ0 hAl rfl (fun WC H locs hX hP hD hS hJ => ?_)
  refine tI (y := nI 710) (by decide +kernel) ?_
  refine lv_sipush (v := nI 710) hx hb dL_limits_673 (by decide +kernel) ?_
  refine lv_icmp_ne (tgt := 683) hx hb dL_limits_676 (by decide) (fun h => absurd h (by decide +kernel)) (fun _ => ?_)
  refine lv_iconst (v := nI 1) hx hb dL_limits_679 (by decide +kernel) ?_
  refine lv_goto (tgt := 684) hx hb dL_limits_680 (by decide) ?_
  refine W.widen (k := 368) (n := 2936) (Nat.le_of_ble_eq_true rfl) (Nat.le_of_ble_eq_true rfl) ?_
  exact W.zret hx hb hr rfl (fun t ht hW => ⟨rfl, trivial, hS.F ht⟩) hS.2.2 dL_limits_684

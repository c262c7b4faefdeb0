def te_T1 : List Nat := [97, 48, 58, 50, 49, 0, 0, 0, 0, 0, 0, 0, 0, 0, 0, 0, 0, 0, 0, 0, 0, 0, 0, 0, 0, 0, 0, 0, 0, 0, 0, 0, 0, 0, 0, 0, 0, 0, 0, 0, 0, 0, 0, 0, 0, 0, 0, 0, 0, 0, 0, 0, 0, 0, 0, 0, 0, 0, 0, 0]
theorem te_e0 : (tyT [0, 0, 0, 0, 0, 0, 0, 0] (tyL [0, 0, 0, 97, 48, 58, 50, 49] 0 8) (tyT [0, 0, 0, 97, 48, 58, 50, 49] 0 (fnL T0) 8) 8) = fnL te_T1 := fn_eq 60 (by decide +kernel) (by decide +kernel) (fun j hj => (tyT_hi hj 8 (by decide +kernel)).trans ((tyT_hi hj 8 (by decide +kernel)).trans (fnL_hi (by rw [show T0.length = 60 from by decide +kernel]; exact hj))))
theorem te_e0l : (tyL [0, 0, 0, 0, 0, 0, 0, 0] (tyL [0, 0, 0, 97, 48, 58, 50, 49] 0 8) 8) = 5 := by decide +kernel
theorem te_w0 : wdB 417420948017 [0, 0, 0, 97, 48, 58, 50, 49] := by unfold wdB; decide +kernel
theorem te_w1 : wdB 0 [0, 0, 0, 0, 0, 0, 0, 0] := by unfold wdB; decide +kernel
def te_T2 : List Nat := [97, 48, 58, 48, 49, 0, 0, 0, 0, 0, 0, 0, 0, 0, 0, 0, 0, 0, 0, 0, 0, 0, 0, 0, 0, 0, 0, 0, 0, 0, 0, 0, 0, 0, 0, 0, 0, 0, 0, 0, 0, 0, 0, 0, 0, 0, 0, 0, 0, 0, 0, 0, 0, 0, 0, 0, 0, 0, 0, 0]
theorem te_e1 : (tyT [0, 0, 0, 0, 0, 0, 0, 0] (tyL [0, 0, 0, 0, 97, 48, 58, 48] 0 8) (tyT [0, 0, 0, 0, 97, 48, 58, 48] 0 (fnL te_T1) 8) 8) = fnL te_T2 := fn_eq 60 (by decide +kernel) (by decide +kernel) (fun j hj => (tyT_hi hj 8 (by decide +kernel)).trans ((tyT_hi hj 8 (by decide +kernel)).trans (fnL_hi (by rw [show te_T1.length = 60 from by decide +kernel]; exact hj))))
theorem te_e1l : (tyL [0, 0, 0, 0, 0, 0, 0, 0] (tyL [0, 0, 0, 0, 97, 48, 58, 48] 0 8) 8) = 4 := by decide +kernel
theorem te_w2 : wdB 1630550576 [0, 0, 0, 0, 97, 48, 58, 48] := by unfold wdB; decide +kernel
def te_T3 : List Nat := [119, 50, 53, 48, 49, 0, 0, 0, 0, 0, 0, 0, 0, 0, 0, 0, 0, 0, 0, 0, 0, 0, 0, 0, 0, 0, 0, 0, 0, 0, 0, 0, 0, 0, 0, 0, 0, 0, 0, 0, 0, 0, 0, 0, 0, 0, 0, 0, 0, 0, 0, 0, 0, 0, 0, 0, 0, 0, 0, 0]
theorem te_e2 : (tyT [0, 0, 0, 0, 0, 0, 0, 0] (tyL [0, 0, 0, 0, 0, 119, 50, 53] 0 8) (tyT [0, 0, 0, 0, 0, 119, 50, 53] 0 (fnL te_T2) 8) 8) = fnL te_T3 := fn_eq 60 (by decide +kernel) (by decide +kernel) (fun j hj => (tyT_hi hj 8 (by decide +kernel)).trans ((tyT_hi hj 8 (by decide +kernel)).trans (fnL_hi (by rw [show te_T2.length = 60 from by decide +kernel]; exact hj))))
theorem te_e2l : (tyL [0, 0, 0, 0, 0, 0, 0, 0] (tyL [0, 0, 0, 0, 0, 119, 50, 53] 0 8) 8) = 3 := by decide +kernel
theorem te_w3 : wdB 7811637 [0, 0, 0, 0, 0, 119, 50, 53] := by unfold wdB; decide +kernel
def te_T4 : List Nat := [100, 54, 53, 48, 49, 0, 0, 0, 0, 0, 0, 0, 0, 0, 0, 0, 0, 0, 0, 0, 0, 0, 0, 0, 0, 0, 0, 0, 0, 0, 0, 0, 0, 0, 0, 0, 0, 0, 0, 0, 0, 0, 0, 0, 0, 0, 0, 0, 0, 0, 0, 0, 0, 0, 0, 0, 0, 0, 0, 0]
theorem te_e3 : (tyT [0, 0, 0, 0, 0, 0, 0, 0] (tyL [0, 0, 0, 0, 0, 0, 100, 54] 0 8) (tyT [0, 0, 0, 0, 0, 0, 100, 54] 0 (fnL te_T3) 8) 8) = fnL te_T4 := fn_eq 60 (by decide +kernel) (by decide +kernel) (fun j hj => (tyT_hi hj 8 (by decide +kernel)).trans ((tyT_hi hj 8 (by decide +kernel)).trans (fnL_hi (by rw [show te_T3.length = 60 from by decide +kernel]; exact hj))))
theorem te_e3l : (tyL [0, 0, 0, 0, 0, 0, 0, 0] (tyL [0, 0, 0, 0, 0, 0, 100, 54] 0 8) 8) = 2 := by decide +kernel
theorem te_w4 : wdB 25654 [0, 0, 0, 0, 0, 0, 100, 54] := by unfold wdB; decide +kernel
def te_T5 : List Nat := [108, 50, 53, 48, 49, 0, 0, 0, 0, 0, 0, 0, 0, 0, 0, 0, 0, 0, 0, 0, 0, 0, 0, 0, 0, 0, 0, 0, 0, 0, 0, 0, 0, 0, 0, 0, 0, 0, 0, 0, 0, 0, 0, 0, 0, 0, 0, 0, 0, 0, 0, 0, 0, 0, 0, 0, 0, 0, 0, 0]
theorem te_e4 : (tyT [0, 0, 0, 0, 0, 0, 0, 0] (tyL [0, 0, 0, 0, 0, 0, 108, 50] 0 8) (tyT [0, 0, 0, 0, 0, 0, 108, 50] 0 (fnL te_T4) 8) 8) = fnL te_T5 := fn_eq 60 (by decide +kernel) (by decide +kernel) (fun j hj => (tyT_hi hj 8 (by decide +kernel)).trans ((tyT_hi hj 8 (by decide +kernel)).trans (fnL_hi (by rw [show te_T4.length = 60 from by decide +kernel]; exact hj))))
theorem te_e4l : (tyL [0, 0, 0, 0, 0, 0, 0, 0] (tyL [0, 0, 0, 0, 0, 0, 108, 50] 0 8) 8) = 2 := by decide +kernel
theorem te_w5 : wdB 27698 [0, 0, 0, 0, 0, 0, 108, 50] := by unfold wdB; decide +kernel
def te_T6 : List Nat := [97, 50, 53, 48, 49, 0, 0, 0, 0, 0, 0, 0, 0, 0, 0, 0, 0, 0, 0, 0, 0, 0, 0, 0, 0, 0, 0, 0, 0, 0, 0, 0, 0, 0, 0, 0, 0, 0, 0, 0, 0, 0, 0, 0, 0, 0, 0, 0, 0, 0, 0, 0, 0, 0, 0, 0, 0, 0, 0, 0]
theorem te_e5 : (tyT [0, 0, 0, 0, 0, 0, 0, 0] (tyL [0, 0, 0, 0, 0, 0, 97, 50] 0 8) (tyT [0, 0, 0, 0, 0, 0, 97, 50] 0 (fnL te_T5) 8) 8) = fnL te_T6 := fn_eq 60 (by decide +kernel) (by decide +kernel) (fun j hj => (tyT_hi hj 8 (by decide +kernel)).trans ((tyT_hi hj 8 (by decide +kernel)).trans (fnL_hi (by rw [show te_T5.length = 60 from by decide +kernel]; exact hj))))
theorem te_e5l : (tyL [0, 0, 0, 0, 0, 0, 0, 0] (tyL [0, 0, 0, 0, 0, 0, 97, 50] 0 8) 8) = 2 := by decide +kernel
theorem te_w6 : wdB 24882 [0, 0, 0, 0, 0, 0, 97, 50] := by unfold wdB; decide +kernel
def te_T7 : List Nat := [120, 120, 53, 48, 49, 0, 0, 0, 0, 0, 0, 0, 0, 0, 0, 0, 0, 0, 0, 0, 0, 0, 0, 0, 0, 0, 0, 0, 0, 0, 0, 0, 0, 0, 0, 0, 0, 0, 0, 0, 0, 0, 0, 0, 0, 0, 0, 0, 0, 0, 0, 0, 0, 0, 0, 0, 0, 0, 0, 0]
theorem te_e6 : (tyT [0, 0, 0, 0, 0, 0, 0, 0] (tyL [0, 0, 0, 0, 0, 0, 120, 120] 0 8) (tyT [0, 0, 0, 0, 0, 0, 120, 120] 0 (fnL te_T6) 8) 8) = fnL te_T7 := fn_eq 60 (by decide +kernel) (by decide +kernel) (fun j hj => (tyT_hi hj 8 (by decide +kernel)).trans ((tyT_hi hj 8 (by decide +kernel)).trans (fnL_hi (by rw [show te_T6.length = 60 from by decide +kernel]; exact hj))))
theorem te_e6l : (tyL [0, 0, 0, 0, 0, 0, 0, 0] (tyL [0, 0, 0, 0, 0, 0, 120, 120] 0 8) 8) = 2 := by decide +kernel
theorem te_w7 : wdB 30840 [0, 0, 0, 0, 0, 0, 120, 120] := by unfold wdB; decide +kernel
def te_T8 : List Nat := [119, 48, 53, 48, 49, 0, 0, 0, 0, 0, 0, 0, 0, 0, 0, 0, 0, 0, 0, 0, 0, 0, 0, 0, 0, 0, 0, 0, 0, 0, 0, 0, 0, 0, 0, 0, 0, 0, 0, 0, 0, 0, 0, 0, 0, 0, 0, 0, 0, 0, 0, 0, 0, 0, 0, 0, 0, 0, 0, 0]
theorem te_e7 : (tyT [0, 0, 0, 0, 0, 0, 0, 0] (tyL [0, 0, 0, 0, 0, 0, 119, 48] 0 8) (tyT [0, 0, 0, 0, 0, 0, 119, 48] 0 (fnL te_T7) 8) 8) = fnL te_T8 := fn_eq 60 (by decide +kernel) (by decide +kernel) (fun j hj => (tyT_hi hj 8 (by decide +kernel)).trans ((tyT_hi hj 8 (by decide +kernel)).trans (fnL_hi (by rw [show te_T7.length = 60 from by decide +kernel]; exact hj))))
theorem te_e7l : (tyL [0, 0, 0, 0, 0, 0, 0, 0] (tyL [0, 0, 0, 0, 0, 0, 119, 48] 0 8) 8) = 2 := by decide +kernel
theorem te_w8 : wdB 30512 [0, 0, 0, 0, 0, 0, 119, 48] := by unfold wdB; decide +kernel
def te_T9 : List Nat := [120, 59, 53, 48, 49, 0, 0, 0, 0, 0, 0, 0, 0, 0, 0, 0, 0, 0, 0, 0, 0, 0, 0, 0, 0, 0, 0, 0, 0, 0, 0, 0, 0, 0, 0, 0, 0, 0, 0, 0, 0, 0, 0, 0, 0, 0, 0, 0, 0, 0, 0, 0, 0, 0, 0, 0, 0, 0, 0, 0]
theorem te_e8 : (tyT [0, 0, 0, 0, 0, 0, 0, 0] (tyL [0, 0, 0, 0, 0, 0, 120, 59] 0 8) (tyT [0, 0, 0, 0, 0, 0, 120, 59] 0 (fnL te_T8) 8) 8) = fnL te_T9 := fn_eq 60 (by decide +kernel) (by decide +kernel) (fun j hj => (tyT_hi hj 8 (by decide +kernel)).trans ((tyT_hi hj 8 (by decide +kernel)).trans (fnL_hi (by rw [show te_T8.length = 60 from by decide +kernel]; exact hj))))
theorem te_e8l : (tyL [0, 0, 0, 0, 0, 0, 0, 0] (tyL [0, 0, 0, 0, 0, 0, 120, 59] 0 8) 8) = 2 := by decide +kernel
theorem te_w9 : wdB 30779 [0, 0, 0, 0, 0, 0, 120, 59] := by unfold wdB; decide +kernel
def te_T10 : List Nat := [97, 49, 58, 50, 59, 0, 0, 0, 0, 0, 0, 0, 0, 0, 0, 0, 0, 0, 0, 0, 0, 0, 0, 0, 0, 0, 0, 0, 0, 0, 0, 0, 0, 0, 0, 0, 0, 0, 0, 0, 0, 0, 0, 0, 0, 0, 0, 0, 0, 0, 0, 0, 0, 0, 0, 0, 0, 0, 0, 0]
theorem te_e9 : (tyT [0, 0, 0, 0, 0, 0, 0, 0] (tyL [0, 0, 0, 97, 49, 58, 50, 59] 0 8) (tyT [0, 0, 0, 97, 49, 58, 50, 59] 0 (fnL te_T9) 8) 8) = fnL te_T10 := fn_eq 60 (by decide +kernel) (by decide +kernel) (fun j hj => (tyT_hi hj 8 (by decide +kernel)).trans ((tyT_hi hj 8 (by decide +kernel)).trans (fnL_hi (by rw [show te_T9.length = 60 from by decide +kernel]; exact hj))))
theorem te_e9l : (tyL [0, 0, 0, 0, 0, 0, 0, 0] (tyL [0, 0, 0, 97, 49, 58, 50, 59] 0 8) 8) = 5 := by decide +kernel
theorem te_w10 : wdB 417437725243 [0, 0, 0, 97, 49, 58, 50, 59] := by unfold wdB; decide +kernel
def te_T11 : List Nat := [97, 48, 58, 50, 48, 59, 108, 48, 0, 0, 0, 0, 0, 0, 0, 0, 0, 0, 0, 0, 0, 0, 0, 0, 0, 0, 0, 0, 0, 0, 0, 0, 0, 0, 0, 0, 0, 0, 0, 0, 0, 0, 0, 0, 0, 0, 0, 0, 0, 0, 0, 0, 0, 0, 0, 0, 0, 0, 0, 0]
theorem te_e10 : (tyT [0, 0, 0, 0, 0, 0, 0, 0] (tyL [97, 48, 58, 50, 48, 59, 108, 48] 0 8) (tyT [97, 48, 58, 50, 48, 59, 108, 48] 0 (fnL te_T10) 8) 8) = fnL te_T11 := fn_eq 60 (by decide +kernel) (by decide +kernel) (fun j hj => (tyT_hi hj 8 (by decide +kernel)).trans ((tyT_hi hj 8 (by decide +kernel)).trans (fnL_hi (by rw [show te_T10.length = 60 from by decide +kernel]; exact hj))))
theorem te_e10l : (tyL [0, 0, 0, 0, 0, 0, 0, 0] (tyL [97, 48, 58, 50, 48, 59, 108, 48] 0 8) 8) = 8 := by decide +kernel
theorem te_w11 : wdB 7003161407793097776 [97, 48, 58, 50, 48, 59, 108, 48] := by unfold wdB; decide +kernel
def te_T12 : List Nat := [121, 48, 58, 50, 48, 59, 108, 48, 0, 0, 0, 0, 0, 0, 0, 0, 0, 0, 0, 0, 0, 0, 0, 0, 0, 0, 0, 0, 0, 0, 0, 0, 0, 0, 0, 0, 0, 0, 0, 0, 0, 0, 0, 0, 0, 0, 0, 0, 0, 0, 0, 0, 0, 0, 0, 0, 0, 0, 0, 0]
theorem te_e11 : (tyT [0, 0, 0, 0, 0, 0, 0, 0] (tyL [0, 0, 0, 0, 0, 0, 0, 121] 0 8) (tyT [0, 0, 0, 0, 0, 0, 0, 121] 0 (fnL te_T11) 8) 8) = fnL te_T12 := fn_eq 60 (by decide +kernel) (by decide +kernel) (fun j hj => (tyT_hi hj 8 (by decide +kernel)).trans ((tyT_hi hj 8 (by decide +kernel)).trans (fnL_hi (by rw [show te_T11.length = 60 from by decide +kernel]; exact hj))))
theorem te_e11l : (tyL [0, 0, 0, 0, 0, 0, 0, 0] (tyL [0, 0, 0, 0, 0, 0, 0, 121] 0 8) 8) = 1 := by decide +kernel
theorem te_w12 : wdB 121 [0, 0, 0, 0, 0, 0, 0, 121] := by unfold wdB; decide +kernel
def te_T13 : List Nat := [117, 59, 59, 50, 48, 59, 108, 48, 0, 0, 0, 0, 0, 0, 0, 0, 0, 0, 0, 0, 0, 0, 0, 0, 0, 0, 0, 0, 0, 0, 0, 0, 0, 0, 0, 0, 0, 0, 0, 0, 0, 0, 0, 0, 0, 0, 0, 0, 0, 0, 0, 0, 0, 0, 0, 0, 0, 0, 0, 0]
theorem te_e12 : (tyT [0, 0, 0, 0, 0, 0, 0, 0] (tyL [0, 0, 0, 0, 0, 117, 59, 59] 0 8) (tyT [0, 0, 0, 0, 0, 117, 59, 59] 0 (fnL te_T12) 8) 8) = fnL te_T13 := fn_eq 60 (by decide +kernel) (by decide +kernel) (fun j hj => (tyT_hi hj 8 (by decide +kernel)).trans ((tyT_hi hj 8 (by decide +kernel)).trans (fnL_hi (by rw [show te_T12.length = 60 from by decide +kernel]; exact hj))))
theorem te_e12l : (tyL [0, 0, 0, 0, 0, 0, 0, 0] (tyL [0, 0, 0, 0, 0, 117, 59, 59] 0 8) 8) = 3 := by decide +kernel
theorem te_w13 : wdB 7682875 [0, 0, 0, 0, 0, 117, 59, 59] := by unfold wdB; decide +kernel
def te_T14 : List Nat := [119, 50, 52, 59, 100, 53, 108, 48, 0, 0, 0, 0, 0, 0, 0, 0, 0, 0, 0, 0, 0, 0, 0, 0, 0, 0, 0, 0, 0, 0, 0, 0, 0, 0, 0, 0, 0, 0, 0, 0, 0, 0, 0, 0, 0, 0, 0, 0, 0, 0, 0, 0, 0, 0, 0, 0, 0, 0, 0, 0]
theorem te_e13 : (tyT [0, 0, 0, 0, 0, 0, 0, 0] (tyL [0, 0, 119, 50, 52, 59, 100, 53] 0 8) (tyT [0, 0, 119, 50, 52, 59, 100, 53] 0 (fnL te_T13) 8) 8) = fnL te_T14 := fn_eq 60 (by decide +kernel) (by decide +kernel) (fun j hj => (tyT_hi hj 8 (by decide +kernel)).trans ((tyT_hi hj 8 (by decide +kernel)).trans (fnL_hi (by rw [show te_T13.length = 60 from by decide +kernel]; exact hj))))
theorem te_e13l : (tyL [0, 0, 0, 0, 0, 0, 0, 0] (tyL [0, 0, 119, 50, 52, 59, 100, 53] 0 8) 8) = 6 := by decide +kernel
theorem te_w14 : wdB 131057508377653 [0, 0, 119, 50, 52, 59, 100, 53] := by unfold wdB; decide +kernel
def te_T15 : List Nat := [97, 48, 59, 59, 100, 53, 108, 48, 0, 0, 0, 0, 0, 0, 0, 0, 0, 0, 0, 0, 0, 0, 0, 0, 0, 0, 0, 0, 0, 0, 0, 0, 0, 0, 0, 0, 0, 0, 0, 0, 0, 0, 0, 0, 0, 0, 0, 0, 0, 0, 0, 0, 0, 0, 0, 0, 0, 0, 0, 0]
theorem te_e14 : (tyT [0, 0, 0, 0, 0, 0, 0, 0] (tyL [0, 0, 0, 0, 0, 97, 48, 59] 0 8) (tyT [0, 0, 0, 0, 0, 97, 48, 59] 0 (fnL te_T14) 8) 8) = fnL te_T15 := fn_eq 60 (by decide +kernel) (by decide +kernel) (fun j hj => (tyT_hi hj 8 (by decide +kernel)).trans ((tyT_hi hj 8 (by decide +kernel)).trans (fnL_hi (by rw [show te_T14.length = 60 from by decide +kernel]; exact hj))))
theorem te_e14l : (tyL [0, 0, 0, 0, 0, 0, 0, 0] (tyL [0, 0, 0, 0, 0, 97, 48, 59] 0 8) 8) = 3 := by decide +kernel
theorem te_w15 : wdB 6369339 [0, 0, 0, 0, 0, 97, 48, 59] := by unfold wdB; decide +kernel
def te_T16 : List Nat := [97, 49, 58, 49, 120, 53, 108, 48, 0, 0, 0, 0, 0, 0, 0, 0, 0, 0, 0, 0, 0, 0, 0, 0, 0, 0, 0, 0, 0, 0, 0, 0, 0, 0, 0, 0, 0, 0, 0, 0, 0, 0, 0, 0, 0, 0, 0, 0, 0, 0, 0, 0, 0, 0, 0, 0, 0, 0, 0, 0]
theorem te_e15 : (tyT [0, 0, 0, 0, 0, 0, 0, 0] (tyL [0, 0, 0, 97, 49, 58, 49, 120] 0 8) (tyT [0, 0, 0, 97, 49, 58, 49, 120] 0 (fnL te_T15) 8) 8) = fnL te_T16 := fn_eq 60 (by decide +kernel) (by decide +kernel) (fun j hj => (tyT_hi hj 8 (by decide +kernel)).trans ((tyT_hi hj 8 (by decide +kernel)).trans (fnL_hi (by rw [show te_T15.length = 60 from by decide +kernel]; exact hj))))
theorem te_e15l : (tyL [0, 0, 0, 0, 0, 0, 0, 0] (tyL [0, 0, 0, 97, 49, 58, 49, 120] 0 8) 8) = 5 := by decide +kernel
theorem te_w16 : wdB 417437725048 [0, 0, 0, 97, 49, 58, 49, 120] := by unfold wdB; decide +kernel
theorem te_e16 : (tyT [0, 0, 0, 0, 0, 0, 0, 0] (tyL [0, 0, 0, 0, 0, 0, 0, 0] 0 8) (tyT [0, 0, 0, 0, 0, 0, 0, 0] 0 (fnL te_T16) 8) 8) = fnL te_T16 := fn_eq 60 (by decide +kernel) (by decide +kernel) (fun j hj => (tyT_hi hj 8 (by decide +kernel)).trans ((tyT_hi hj 8 (by decide +kernel)).trans (fnL_hi (by rw [show te_T16.length = 60 from by decide +kernel]; exact hj))))
theorem te_e16l : (tyL [0, 0, 0, 0, 0, 0, 0, 0] (tyL [0, 0, 0, 0, 0, 0, 0, 0] 0 8) 8) = 0 := by decide +kernel
def te_T17 : List Nat := [97, 48, 58, 49, 57, 59, 119, 51, 0, 0, 0, 0, 0, 0, 0, 0, 0, 0, 0, 0, 0, 0, 0, 0, 0, 0, 0, 0, 0, 0, 0, 0, 0, 0, 0, 0, 0, 0, 0, 0, 0, 0, 0, 0, 0, 0, 0, 0, 0, 0, 0, 0, 0, 0, 0, 0, 0, 0, 0, 0]
theorem te_e17 : (tyT [0, 0, 0, 0, 0, 0, 0, 0] (tyL [97, 48, 58, 49, 57, 59, 119, 51] 0 8) (tyT [97, 48, 58, 49, 57, 59, 119, 51] 0 (fnL te_T16) 8) 8) = fnL te_T17 := fn_eq 60 (by decide +kernel) (by decide +kernel) (fun j hj => (tyT_hi hj 8 (by decide +kernel)).trans ((tyT_hi hj 8 (by decide +kernel)).trans (fnL_hi (by rw [show te_T16.length = 60 from by decide +kernel]; exact hj))))
theorem te_e17l : (tyL [0, 0, 0, 0, 0, 0, 0, 0] (tyL [97, 48, 58, 49, 57, 59, 119, 51] 0 8) 8) = 8 := by decide +kernel
theorem te_w17 : wdB 7003161403649128243 [97, 48, 58, 49, 57, 59, 119, 51] := by unfold wdB; decide +kernel
def te_T18 : List Nat := [97, 48, 58, 50, 48, 59, 119, 51, 0, 0, 0, 0, 0, 0, 0, 0, 0, 0, 0, 0, 0, 0, 0, 0, 0, 0, 0, 0, 0, 0, 0, 0, 0, 0, 0, 0, 0, 0, 0, 0, 0, 0, 0, 0, 0, 0, 0, 0, 0, 0, 0, 0, 0, 0, 0, 0, 0, 0, 0, 0]
theorem te_e18 : (tyT [0, 0, 97, 48, 58, 50, 48, 59] 0 (fnL te_T17) 8) = fnL te_T18 := fn_eq 60 (by decide +kernel) (by decide +kernel) (fun j hj => (tyT_hi hj 8 (by decide +kernel)).trans (fnL_hi (by rw [show te_T17.length = 60 from by decide +kernel]; exact hj)))
theorem te_e18l : (tyL [0, 0, 97, 48, 58, 50, 48, 59] 0 8) = 6 := by decide +kernel
theorem te_w18 : wdB 106859762692155 [0, 0, 97, 48, 58, 50, 48, 59] := by unfold wdB; decide +kernel
def te_T19 : List Nat := [97, 48, 58, 50, 48, 59, 108, 48, 59, 108, 48, 59, 120, 0, 0, 0, 0, 0, 0, 0, 0, 0, 0, 0, 0, 0, 0, 0, 0, 0, 0, 0, 0, 0, 0, 0, 0, 0, 0, 0, 0, 0, 0, 0, 0, 0, 0, 0, 0, 0, 0, 0, 0, 0, 0, 0, 0, 0, 0, 0]
theorem te_e19 : (tyT [0, 108, 48, 59, 108, 48, 59, 120] 6 (fnL te_T18) 8) = fnL te_T19 := fn_eq 60 (by decide +kernel) (by decide +kernel) (fun j hj => (tyT_hi hj 8 (by decide +kernel)).trans (fnL_hi (by rw [show te_T18.length = 60 from by decide +kernel]; exact hj)))
theorem te_e19l : (tyL [0, 108, 48, 59, 108, 48, 59, 120] 6 8) = 13 := by decide +kernel
theorem te_w19 : wdB 30452329261054840 [0, 108, 48, 59, 108, 48, 59, 120] := by unfold wdB; decide +kernel
def te_L1 : List Nat := [300, 12, 10, 10, 10, 10, 10, 10, 10, 10, 10, 10, 10, 10, 10, 10, 10, 10, 10, 10, 10, 10, 10, 10, 10, 10, 10, 0, 0, 0, 0, 0, 0, 0, 0, 0, 0, 0, 0, 0, 0, 0, 0, 0, 0, 0, 0, 0, 0, 40, 0, 0, 0, 1, 0, 0, 0, 0, 0, 0, 0, 0, 0, 0, 0, 0, 0, 0, 0, 0, 0, 0, 0, 0, 0, 0, 0, 0, 0, 1, 20, 0, 0, 0, 0, 0, 0, 0, 0, 0, 0, 0, 0, 0, 0, 0, 0]
def te_L2 : List Nat := [300, 12, 10, 10, 10, 10, 10, 10, 10, 10, 10, 10, 10, 10, 10, 10, 10, 10, 10, 10, 10, 10, 10, 10, 10, 10, 10, 0, 0, 0, 0, 0, 0, 0, 0, 0, 0, 0, 0, 0, 0, 0, 0, 0, 0, 0, 0, 0, 0, 40, 0, 0, 0, 1, 0, 0, 0, 1, 20, 0, 0, 0, 0, 0, 0, 0, 0, 0, 0, 0, 0, 0, 0, 0, 0, 0, 0, 0, 0, 0, 0, 0, 0, 0, 0, 0, 0, 0, 0, 0, 0, 0, 0, 0, 0, 0, 0]
theorem te_o21_0 : fArr (fnL L0) 0 (nI 20) = fnL te_L2 := fn_eq 97 (by decide +kernel) (by decide +kernel) (hi_arr (hi_fn (by decide +kernel)) (by decide) (by decide +kernel))
theorem te_o21_0y : doY (nn (fnL te_T19)) 13 0 (fnL L0) = fnL te_L2 := (doD_a (by decide +kernel) (by decide +kernel) (by decide +kernel)).trans te_o21_0
theorem te_o21_6 : fLod (fnL te_L2) 0 = fnL te_L1 := fn_eq 97 (by decide +kernel) (by decide +kernel) (hi_lod (hi_fn (by decide +kernel)) (by decide) (by decide +kernel) (by decide +kernel))
theorem te_o21_6y : doY (nn (fnL te_T19)) 13 6 (fnL te_L2) = fnL te_L1 := (doD_l (by decide +kernel) (by decide +kernel)).trans te_o21_6
theorem te_e20 : yF (nn (fnL te_T19)) 13 13 0 (fnL L0) = fnL te_L1 := by
  refine (yF_do (t := (nn (fnL te_T19))) (n := 13) (k := 12) (i := 0) (by decide +kernel) (by decide +kernel) te_o21_0y).trans ?_
  refine (yF_no (t := (nn (fnL te_T19))) (n := 13) (k := 11) (i := 1) (by decide +kernel)).trans ?_
  refine (yF_no (t := (nn (fnL te_T19))) (n := 13) (k := 10) (i := 2) (by decide +kernel)).trans ?_
  refine (yF_no (t := (nn (fnL te_T19))) (n := 13) (k := 9) (i := 3) (by decide +kernel)).trans ?_
  refine (yF_no (t := (nn (fnL te_T19))) (n := 13) (k := 8) (i := 4) (by decide +kernel)).trans ?_
  refine (yF_no (t := (nn (fnL te_T19))) (n := 13) (k := 7) (i := 5) (by decide +kernel)).trans ?_
  refine (yF_do (t := (nn (fnL te_T19))) (n := 13) (k := 6) (i := 6) (by decide +kernel) (by decide +kernel) te_o21_6y).trans ?_
  refine (yF_no (t := (nn (fnL te_T19))) (n := 13) (k := 5) (i := 7) (by decide +kernel)).trans ?_
  refine (yF_no (t := (nn (fnL te_T19))) (n := 13) (k := 4) (i := 8) (by decide +kernel)).trans ?_
  exact yF_st (t := (nn (fnL te_T19))) (n := 13) (k := 3) (i := 9) (by decide +kernel) (by decide +kernel)
def te_T20 : List Nat := [117, 59, 120, 59, 119, 50, 52, 59, 59, 108, 48, 59, 120, 0, 0, 0, 0, 0, 0, 0, 0, 0, 0, 0, 0, 0, 0, 0, 0, 0, 0, 0, 0, 0, 0, 0, 0, 0, 0, 0, 0, 0, 0, 0, 0, 0, 0, 0, 0, 0, 0, 0, 0, 0, 0, 0, 0, 0, 0, 0]
theorem te_e21 : (tyT [117, 59, 120, 59, 119, 50, 52, 59] 0 (fnL te_T19) 8) = fnL te_T20 := fn_eq 60 (by decide +kernel) (by decide +kernel) (fun j hj => (tyT_hi hj 8 (by decide +kernel)).trans (fnL_hi (by rw [show te_T19.length = 60 from by decide +kernel]; exact hj)))
theorem te_e21l : (tyL [117, 59, 120, 59, 119, 50, 52, 59] 0 8) = 8 := by decide +kernel
theorem te_w20 : wdB 8447477722861679675 [117, 59, 120, 59, 119, 50, 52, 59] := by unfold wdB; decide +kernel
def te_T21 : List Nat := [117, 59, 120, 59, 119, 50, 52, 59, 100, 53, 59, 97, 49, 58, 51, 0, 0, 0, 0, 0, 0, 0, 0, 0, 0, 0, 0, 0, 0, 0, 0, 0, 0, 0, 0, 0, 0, 0, 0, 0, 0, 0, 0, 0, 0, 0, 0, 0, 0, 0, 0, 0, 0, 0, 0, 0, 0, 0, 0, 0]
theorem te_e22 : (tyT [0, 100, 53, 59, 97, 49, 58, 51] 8 (fnL te_T20) 8) = fnL te_T21 := fn_eq 60 (by decide +kernel) (by decide +kernel) (fun j hj => (tyT_hi hj 8 (by decide +kernel)).trans (fnL_hi (by rw [show te_T20.length = 60 from by decide +kernel]; exact hj)))
theorem te_e22l : (tyL [0, 100, 53, 59, 97, 49, 58, 51] 8 8) = 15 := by decide +kernel
theorem te_w21 : wdB 28206026821024307 [0, 100, 53, 59, 97, 49, 58, 51] := by unfold wdB; decide +kernel
def te_L3 : List Nat := [300, 12, 10, 10, 10, 10, 10, 10, 10, 10, 10, 10, 10, 10, 10, 10, 10, 10, 10, 10, 10, 10, 10, 10, 10, 10, 10, 1, 1, 1, 1, 2, 2, 1, 1, 1, 1, 1, 0, 0, 0, 0, 0, 0, 0, 0, 0, 0, 0, 35, 30, 1, 1, 2, 0, 1, 0, 0, 0, 0, 0, 0, 0, 0, 0, 0, 0, 0, 1, 3, 0, 0, 0, 0, 0, 0, 0, 0, 0, 0, 0, 0, 0, 0, 0, 0, 0, 0, 0, 0, 0, 0, 0, 0, 0, 0, 0]
def te_L4 : List Nat := [300, 12, 10, 10, 10, 10, 10, 10, 10, 10, 10, 10, 10, 10, 10, 10, 10, 10, 10, 10, 10, 10, 10, 10, 10, 10, 10, 0, 0, 0, 0, 0, 0, 0, 0, 0, 0, 0, 0, 0, 0, 0, 0, 0, 0, 0, 0, 0, 0, 40, 0, 0, 0, 1, 0, 1, 0, 0, 0, 0, 0, 0, 0, 0, 0, 0, 0, 0, 0, 0, 0, 0, 0, 0, 0, 0, 0, 0, 0, 0, 0, 0, 0, 0, 0, 0, 0, 0, 0, 0, 0, 0, 0, 0, 0, 0, 0]
theorem te_o24_0 : fUnl (fnL te_L1) = fnL te_L4 := fn_eq 97 (by decide +kernel) (by decide +kernel) (hi_unl (hi_fn (by decide +kernel)))
theorem te_o24_0y : doY (nn (fnL te_T21)) 15 0 (fnL te_L1) = fnL te_L4 := (doD_u (by decide +kernel)).trans te_o24_0
def te_L5 : List Nat := [300, 12, 10, 10, 10, 10, 10, 10, 10, 10, 10, 10, 10, 10, 10, 10, 10, 10, 10, 10, 10, 10, 10, 10, 10, 10, 10, 0, 0, 0, 0, 1, 1, 1, 1, 1, 2, 2, 1, 1, 1, 1, 1, 0, 0, 0, 0, 0, 220, 40, 1, 1, 1, 1, 0, 1, 0, 0, 0, 0, 0, 0, 0, 0, 0, 0, 0, 0, 0, 0, 0, 0, 0, 0, 0, 0, 0, 0, 0, 0, 0, 0, 0, 0, 0, 0, 0, 0, 0, 0, 0, 0, 0, 0, 0, 0, 0]
theorem te_o24_2 : fCrs (fnL te_L4) = fnL te_L5 := fn_eq 97 (by decide +kernel) (by decide +kernel) (hi_crs (hi_fn (by decide +kernel)))
theorem te_o24_2y : doY (nn (fnL te_T21)) 15 2 (fnL te_L4) = fnL te_L5 := (doD_x (by decide +kernel)).trans te_o24_2
def te_L6 : List Nat := [300, 12, 10, 10, 10, 10, 10, 10, 10, 10, 10, 10, 10, 10, 10, 10, 10, 10, 10, 10, 10, 10, 10, 10, 10, 10, 10, 0, 0, 0, 0, 1, 1, 1, 1, 1, 2, 2, 1, 1, 1, 1, 1, 0, 0, 0, 0, 0, 220, 40, 25, 1, 1, 1, 0, 1, 0, 0, 0, 0, 0, 0, 0, 0, 0, 0, 0, 0, 0, 0, 0, 0, 0, 0, 0, 0, 0, 0, 0, 0, 0, 0, 0, 0, 0, 0, 0, 0, 0, 0, 0, 0, 0, 0, 0, 0, 0]
theorem te_o24_4 : fPas (fnL te_L5) (nI 24) = fnL te_L6 := fn_eq 97 (by decide +kernel) (by decide +kernel) (hi_pas (hi_fn (by decide +kernel)))
theorem te_o24_4y : doY (nn (fnL te_T21)) 15 4 (fnL te_L5) = fnL te_L6 := (doD_w (by decide +kernel) (by decide +kernel)).trans te_o24_4
def te_L7 : List Nat := [300, 12, 10, 10, 10, 10, 10, 10, 10, 10, 10, 10, 10, 10, 10, 10, 10, 10, 10, 10, 10, 10, 10, 10, 10, 10, 10, 1, 1, 1, 1, 2, 2, 1, 1, 1, 1, 1, 0, 0, 0, 0, 0, 0, 0, 0, 0, 0, 0, 35, 30, 1, 1, 1, 0, 1, 0, 0, 0, 0, 0, 0, 0, 0, 0, 0, 0, 0, 0, 0, 0, 0, 0, 0, 0, 0, 0, 0, 0, 0, 0, 0, 0, 0, 0, 0, 0, 0, 0, 0, 0, 0, 0, 0, 0, 0, 0]
theorem te_o24_8 : fDrw (fnL te_L6) 5 = fnL te_L7 := fn_eq 97 (by decide +kernel) (by decide +kernel) (hi_drw (hi_fn (by decide +kernel)))
theorem te_o24_8y : doY (nn (fnL te_T21)) 15 8 (fnL te_L6) = fnL te_L7 := (doD_d (by decide +kernel) (by decide +kernel)).trans te_o24_8
theorem te_o24_11 : fArr (fnL te_L7) 1 (nI 3) = fnL te_L3 := fn_eq 97 (by decide +kernel) (by decide +kernel) (hi_arr (hi_fn (by decide +kernel)) (by decide) (by decide +kernel))
theorem te_o24_11y : doY (nn (fnL te_T21)) 15 11 (fnL te_L7) = fnL te_L3 := (doD_a (by decide +kernel) (by decide +kernel) (by decide +kernel)).trans te_o24_11
theorem te_e23 : yF (nn (fnL te_T21)) 15 15 0 (fnL te_L1) = fnL te_L3 := by
  refine (yF_do (t := (nn (fnL te_T21))) (n := 15) (k := 14) (i := 0) (by decide +kernel) (by decide +kernel) te_o24_0y).trans ?_
  refine (yF_no (t := (nn (fnL te_T21))) (n := 15) (k := 13) (i := 1) (by decide +kernel)).trans ?_
  refine (yF_do (t := (nn (fnL te_T21))) (n := 15) (k := 12) (i := 2) (by decide +kernel) (by decide +kernel) te_o24_2y).trans ?_
  refine (yF_no (t := (nn (fnL te_T21))) (n := 15) (k := 11) (i := 3) (by decide +kernel)).trans ?_
  refine (yF_do (t := (nn (fnL te_T21))) (n := 15) (k := 10) (i := 4) (by decide +kernel) (by decide +kernel) te_o24_4y).trans ?_
  refine (yF_no (t := (nn (fnL te_T21))) (n := 15) (k := 9) (i := 5) (by decide +kernel)).trans ?_
  refine (yF_no (t := (nn (fnL te_T21))) (n := 15) (k := 8) (i := 6) (by decide +kernel)).trans ?_
  refine (yF_no (t := (nn (fnL te_T21))) (n := 15) (k := 7) (i := 7) (by decide +kernel)).trans ?_
  refine (yF_do (t := (nn (fnL te_T21))) (n := 15) (k := 6) (i := 8) (by decide +kernel) (by decide +kernel) te_o24_8y).trans ?_
  refine (yF_no (t := (nn (fnL te_T21))) (n := 15) (k := 5) (i := 9) (by decide +kernel)).trans ?_
  refine (yF_no (t := (nn (fnL te_T21))) (n := 15) (k := 4) (i := 10) (by decide +kernel)).trans ?_
  refine (yF_do (t := (nn (fnL te_T21))) (n := 15) (k := 3) (i := 11) (by decide +kernel) (by decide +kernel) te_o24_11y).trans ?_
  refine (yF_no (t := (nn (fnL te_T21))) (n := 15) (k := 2) (i := 12) (by decide +kernel)).trans ?_
  refine (yF_no (t := (nn (fnL te_T21))) (n := 15) (k := 1) (i := 13) (by decide +kernel)).trans ?_
  refine (yF_no (t := (nn (fnL te_T21))) (n := 15) (k := 0) (i := 14) (by decide +kernel)).trans ?_
  rfl
def te_T22 : List Nat := [120, 59, 120, 59, 119, 50, 52, 59, 100, 53, 59, 97, 49, 58, 51, 0, 0, 0, 0, 0, 0, 0, 0, 0, 0, 0, 0, 0, 0, 0, 0, 0, 0, 0, 0, 0, 0, 0, 0, 0, 0, 0, 0, 0, 0, 0, 0, 0, 0, 0, 0, 0, 0, 0, 0, 0, 0, 0, 0, 0]
theorem te_e24 : upd (fnL te_T21) 0 (nI 120) = fnL te_T22 := fn_eq 60 (by decide +kernel) (by decide +kernel) (fun j hj => (pk_un (by omega)).trans (fnL_hi (l := te_T21) (by rw [show te_T21.length = 60 from by decide +kernel]; exact hj)))
theorem te_e25 : upd (fnL te_T22) 1 (nI 59) = fnL te_T22 := fn_eq 60 (by decide +kernel) (by decide +kernel) (fun j hj => (pk_un (by omega)).trans (fnL_hi (l := te_T22) (by rw [show te_T22.length = 60 from by decide +kernel]; exact hj)))
theorem te_e26 : upd (fnL te_T22) 2 (nI 120) = fnL te_T22 := fn_eq 60 (by decide +kernel) (by decide +kernel) (fun j hj => (pk_un (by omega)).trans (fnL_hi (l := te_T22) (by rw [show te_T22.length = 60 from by decide +kernel]; exact hj)))
theorem te_e27 : upd (fnL te_T22) 3 (nI 59) = fnL te_T22 := fn_eq 60 (by decide +kernel) (by decide +kernel) (fun j hj => (pk_un (by omega)).trans (fnL_hi (l := te_T22) (by rw [show te_T22.length = 60 from by decide +kernel]; exact hj)))
def te_T23 : List Nat := [120, 59, 120, 59, 120, 50, 52, 59, 100, 53, 59, 97, 49, 58, 51, 0, 0, 0, 0, 0, 0, 0, 0, 0, 0, 0, 0, 0, 0, 0, 0, 0, 0, 0, 0, 0, 0, 0, 0, 0, 0, 0, 0, 0, 0, 0, 0, 0, 0, 0, 0, 0, 0, 0, 0, 0, 0, 0, 0, 0]
theorem te_e28 : upd (fnL te_T22) 4 (nI 120) = fnL te_T23 := fn_eq 60 (by decide +kernel) (by decide +kernel) (fun j hj => (pk_un (by omega)).trans (fnL_hi (l := te_T22) (by rw [show te_T22.length = 60 from by decide +kernel]; exact hj)))
def te_T24 : List Nat := [120, 59, 120, 59, 120, 59, 52, 59, 100, 53, 59, 97, 49, 58, 51, 0, 0, 0, 0, 0, 0, 0, 0, 0, 0, 0, 0, 0, 0, 0, 0, 0, 0, 0, 0, 0, 0, 0, 0, 0, 0, 0, 0, 0, 0, 0, 0, 0, 0, 0, 0, 0, 0, 0, 0, 0, 0, 0, 0, 0]
theorem te_e29 : upd (fnL te_T23) 5 (nI 59) = fnL te_T24 := fn_eq 60 (by decide +kernel) (by decide +kernel) (fun j hj => (pk_un (by omega)).trans (fnL_hi (l := te_T23) (by rw [show te_T23.length = 60 from by decide +kernel]; exact hj)))
def te_T25 : List Nat := [120, 59, 120, 59, 120, 59, 120, 59, 100, 53, 59, 97, 49, 58, 51, 0, 0, 0, 0, 0, 0, 0, 0, 0, 0, 0, 0, 0, 0, 0, 0, 0, 0, 0, 0, 0, 0, 0, 0, 0, 0, 0, 0, 0, 0, 0, 0, 0, 0, 0, 0, 0, 0, 0, 0, 0, 0, 0, 0, 0]
theorem te_e30 : upd (fnL te_T24) 6 (nI 120) = fnL te_T25 := fn_eq 60 (by decide +kernel) (by decide +kernel) (fun j hj => (pk_un (by omega)).trans (fnL_hi (l := te_T24) (by rw [show te_T24.length = 60 from by decide +kernel]; exact hj)))
theorem te_e31 : upd (fnL te_T25) 7 (nI 59) = fnL te_T25 := fn_eq 60 (by decide +kernel) (by decide +kernel) (fun j hj => (pk_un (by omega)).trans (fnL_hi (l := te_T25) (by rw [show te_T25.length = 60 from by decide +kernel]; exact hj)))
def te_T26 : List Nat := [120, 59, 120, 59, 120, 59, 120, 59, 120, 53, 59, 97, 49, 58, 51, 0, 0, 0, 0, 0, 0, 0, 0, 0, 0, 0, 0, 0, 0, 0, 0, 0, 0, 0, 0, 0, 0, 0, 0, 0, 0, 0, 0, 0, 0, 0, 0, 0, 0, 0, 0, 0, 0, 0, 0, 0, 0, 0, 0, 0]
theorem te_e32 : upd (fnL te_T25) 8 (nI 120) = fnL te_T26 := fn_eq 60 (by decide +kernel) (by decide +kernel) (fun j hj => (pk_un (by omega)).trans (fnL_hi (l := te_T25) (by rw [show te_T25.length = 60 from by decide +kernel]; exact hj)))
def te_T27 : List Nat := [120, 59, 120, 59, 120, 59, 120, 59, 120, 59, 59, 97, 49, 58, 51, 0, 0, 0, 0, 0, 0, 0, 0, 0, 0, 0, 0, 0, 0, 0, 0, 0, 0, 0, 0, 0, 0, 0, 0, 0, 0, 0, 0, 0, 0, 0, 0, 0, 0, 0, 0, 0, 0, 0, 0, 0, 0, 0, 0, 0]
theorem te_e33 : upd (fnL te_T26) 9 (nI 59) = fnL te_T27 := fn_eq 60 (by decide +kernel) (by decide +kernel) (fun j hj => (pk_un (by omega)).trans (fnL_hi (l := te_T26) (by rw [show te_T26.length = 60 from by decide +kernel]; exact hj)))
def te_T28 : List Nat := [120, 59, 120, 59, 120, 59, 120, 59, 120, 59, 120, 97, 49, 58, 51, 0, 0, 0, 0, 0, 0, 0, 0, 0, 0, 0, 0, 0, 0, 0, 0, 0, 0, 0, 0, 0, 0, 0, 0, 0, 0, 0, 0, 0, 0, 0, 0, 0, 0, 0, 0, 0, 0, 0, 0, 0, 0, 0, 0, 0]
theorem te_e34 : upd (fnL te_T27) 10 (nI 120) = fnL te_T28 := fn_eq 60 (by decide +kernel) (by decide +kernel) (fun j hj => (pk_un (by omega)).trans (fnL_hi (l := te_T27) (by rw [show te_T27.length = 60 from by decide +kernel]; exact hj)))
def te_T29 : List Nat := [120, 59, 120, 59, 120, 59, 120, 59, 120, 59, 120, 59, 49, 58, 51, 0, 0, 0, 0, 0, 0, 0, 0, 0, 0, 0, 0, 0, 0, 0, 0, 0, 0, 0, 0, 0, 0, 0, 0, 0, 0, 0, 0, 0, 0, 0, 0, 0, 0, 0, 0, 0, 0, 0, 0, 0, 0, 0, 0, 0]
theorem te_e35 : upd (fnL te_T28) 11 (nI 59) = fnL te_T29 := fn_eq 60 (by decide +kernel) (by decide +kernel) (fun j hj => (pk_un (by omega)).trans (fnL_hi (l := te_T28) (by rw [show te_T28.length = 60 from by decide +kernel]; exact hj)))
def te_T30 : List Nat := [120, 59, 120, 59, 120, 59, 120, 59, 120, 59, 120, 59, 120, 58, 51, 0, 0, 0, 0, 0, 0, 0, 0, 0, 0, 0, 0, 0, 0, 0, 0, 0, 0, 0, 0, 0, 0, 0, 0, 0, 0, 0, 0, 0, 0, 0, 0, 0, 0, 0, 0, 0, 0, 0, 0, 0, 0, 0, 0, 0]
theorem te_e36 : upd (fnL te_T29) 12 (nI 120) = fnL te_T30 := fn_eq 60 (by decide +kernel) (by decide +kernel) (fun j hj => (pk_un (by omega)).trans (fnL_hi (l := te_T29) (by rw [show te_T29.length = 60 from by decide +kernel]; exact hj)))
def te_T31 : List Nat := [120, 59, 120, 59, 120, 59, 120, 59, 120, 59, 120, 59, 120, 59, 51, 0, 0, 0, 0, 0, 0, 0, 0, 0, 0, 0, 0, 0, 0, 0, 0, 0, 0, 0, 0, 0, 0, 0, 0, 0, 0, 0, 0, 0, 0, 0, 0, 0, 0, 0, 0, 0, 0, 0, 0, 0, 0, 0, 0, 0]
theorem te_e37 : upd (fnL te_T30) 13 (nI 59) = fnL te_T31 := fn_eq 60 (by decide +kernel) (by decide +kernel) (fun j hj => (pk_un (by omega)).trans (fnL_hi (l := te_T30) (by rw [show te_T30.length = 60 from by decide +kernel]; exact hj)))
def te_T32 : List Nat := [120, 59, 120, 59, 120, 59, 120, 59, 120, 59, 120, 59, 120, 59, 120, 0, 0, 0, 0, 0, 0, 0, 0, 0, 0, 0, 0, 0, 0, 0, 0, 0, 0, 0, 0, 0, 0, 0, 0, 0, 0, 0, 0, 0, 0, 0, 0, 0, 0, 0, 0, 0, 0, 0, 0, 0, 0, 0, 0, 0]
theorem te_e38 : upd (fnL te_T31) 14 (nI 120) = fnL te_T32 := fn_eq 60 (by decide +kernel) (by decide +kernel) (fun j hj => (pk_un (by omega)).trans (fnL_hi (l := te_T31) (by rw [show te_T31.length = 60 from by decide +kernel]; exact hj)))
def te_T33 : List Nat := [120, 59, 120, 59, 120, 59, 120, 59, 120, 59, 120, 59, 120, 59, 120, 59, 0, 0, 0, 0, 0, 0, 0, 0, 0, 0, 0, 0, 0, 0, 0, 0, 0, 0, 0, 0, 0, 0, 0, 0, 0, 0, 0, 0, 0, 0, 0, 0, 0, 0, 0, 0, 0, 0, 0, 0, 0, 0, 0, 0]
theorem te_e39 : upd (fnL te_T32) 15 (nI 59) = fnL te_T33 := fn_eq 60 (by decide +kernel) (by decide +kernel) (fun j hj => (pk_un (by omega)).trans (fnL_hi (l := te_T32) (by rw [show te_T32.length = 60 from by decide +kernel]; exact hj)))
def te_T34 : List Nat := [120, 59, 120, 59, 120, 59, 120, 59, 120, 59, 120, 59, 120, 59, 120, 59, 120, 0, 0, 0, 0, 0, 0, 0, 0, 0, 0, 0, 0, 0, 0, 0, 0, 0, 0, 0, 0, 0, 0, 0, 0, 0, 0, 0, 0, 0, 0, 0, 0, 0, 0, 0, 0, 0, 0, 0, 0, 0, 0, 0]
theorem te_e40 : upd (fnL te_T33) 16 (nI 120) = fnL te_T34 := fn_eq 60 (by decide +kernel) (by decide +kernel) (fun j hj => (pk_un (by omega)).trans (fnL_hi (l := te_T33) (by rw [show te_T33.length = 60 from by decide +kernel]; exact hj)))
def te_T35 : List Nat := [120, 59, 120, 59, 120, 59, 120, 59, 120, 59, 120, 59, 120, 59, 120, 59, 120, 59, 0, 0, 0, 0, 0, 0, 0, 0, 0, 0, 0, 0, 0, 0, 0, 0, 0, 0, 0, 0, 0, 0, 0, 0, 0, 0, 0, 0, 0, 0, 0, 0, 0, 0, 0, 0, 0, 0, 0, 0, 0, 0]
theorem te_e41 : upd (fnL te_T34) 17 (nI 59) = fnL te_T35 := fn_eq 60 (by decide +kernel) (by decide +kernel) (fun j hj => (pk_un (by omega)).trans (fnL_hi (l := te_T34) (by rw [show te_T34.length = 60 from by decide +kernel]; exact hj)))
def te_T36 : List Nat := [120, 59, 120, 59, 120, 59, 120, 59, 120, 59, 120, 59, 120, 59, 120, 59, 120, 59, 120, 0, 0, 0, 0, 0, 0, 0, 0, 0, 0, 0, 0, 0, 0, 0, 0, 0, 0, 0, 0, 0, 0, 0, 0, 0, 0, 0, 0, 0, 0, 0, 0, 0, 0, 0, 0, 0, 0, 0, 0, 0]
theorem te_e42 : upd (fnL te_T35) 18 (nI 120) = fnL te_T36 := fn_eq 60 (by decide +kernel) (by decide +kernel) (fun j hj => (pk_un (by omega)).trans (fnL_hi (l := te_T35) (by rw [show te_T35.length = 60 from by decide +kernel]; exact hj)))
def te_T37 : List Nat := [120, 59, 120, 59, 120, 59, 120, 59, 120, 59, 120, 59, 120, 59, 120, 59, 120, 59, 120, 59, 0, 0, 0, 0, 0, 0, 0, 0, 0, 0, 0, 0, 0, 0, 0, 0, 0, 0, 0, 0, 0, 0, 0, 0, 0, 0, 0, 0, 0, 0, 0, 0, 0, 0, 0, 0, 0, 0, 0, 0]
theorem te_e43 : upd (fnL te_T36) 19 (nI 59) = fnL te_T37 := fn_eq 60 (by decide +kernel) (by decide +kernel) (fun j hj => (pk_un (by omega)).trans (fnL_hi (l := te_T36) (by rw [show te_T36.length = 60 from by decide +kernel]; exact hj)))
def te_T38 : List Nat := [120, 59, 120, 59, 120, 59, 120, 59, 120, 59, 120, 59, 120, 59, 120, 59, 120, 59, 120, 59, 120, 0, 0, 0, 0, 0, 0, 0, 0, 0, 0, 0, 0, 0, 0, 0, 0, 0, 0, 0, 0, 0, 0, 0, 0, 0, 0, 0, 0, 0, 0, 0, 0, 0, 0, 0, 0, 0, 0, 0]
theorem te_e44 : upd (fnL te_T37) 20 (nI 120) = fnL te_T38 := fn_eq 60 (by decide +kernel) (by decide +kernel) (fun j hj => (pk_un (by omega)).trans (fnL_hi (l := te_T37) (by rw [show te_T37.length = 60 from by decide +kernel]; exact hj)))
def te_T39 : List Nat := [120, 59, 120, 59, 120, 59, 120, 59, 120, 59, 120, 59, 120, 59, 120, 59, 120, 59, 120, 59, 120, 59, 0, 0, 0, 0, 0, 0, 0, 0, 0, 0, 0, 0, 0, 0, 0, 0, 0, 0, 0, 0, 0, 0, 0, 0, 0, 0, 0, 0, 0, 0, 0, 0, 0, 0, 0, 0, 0, 0]
theorem te_e45 : upd (fnL te_T38) 21 (nI 59) = fnL te_T39 := fn_eq 60 (by decide +kernel) (by decide +kernel) (fun j hj => (pk_un (by omega)).trans (fnL_hi (l := te_T38) (by rw [show te_T38.length = 60 from by decide +kernel]; exact hj)))
def te_T40 : List Nat := [120, 59, 120, 59, 120, 59, 120, 59, 120, 59, 120, 59, 120, 59, 120, 59, 120, 59, 120, 59, 120, 59, 120, 0, 0, 0, 0, 0, 0, 0, 0, 0, 0, 0, 0, 0, 0, 0, 0, 0, 0, 0, 0, 0, 0, 0, 0, 0, 0, 0, 0, 0, 0, 0, 0, 0, 0, 0, 0, 0]
theorem te_e46 : upd (fnL te_T39) 22 (nI 120) = fnL te_T40 := fn_eq 60 (by decide +kernel) (by decide +kernel) (fun j hj => (pk_un (by omega)).trans (fnL_hi (l := te_T39) (by rw [show te_T39.length = 60 from by decide +kernel]; exact hj)))
def te_T41 : List Nat := [120, 59, 120, 59, 120, 59, 120, 59, 120, 59, 120, 59, 120, 59, 120, 59, 120, 59, 120, 59, 120, 59, 120, 59, 0, 0, 0, 0, 0, 0, 0, 0, 0, 0, 0, 0, 0, 0, 0, 0, 0, 0, 0, 0, 0, 0, 0, 0, 0, 0, 0, 0, 0, 0, 0, 0, 0, 0, 0, 0]
theorem te_e47 : upd (fnL te_T40) 23 (nI 59) = fnL te_T41 := fn_eq 60 (by decide +kernel) (by decide +kernel) (fun j hj => (pk_un (by omega)).trans (fnL_hi (l := te_T40) (by rw [show te_T40.length = 60 from by decide +kernel]; exact hj)))
def te_T42 : List Nat := [120, 59, 120, 59, 120, 59, 120, 59, 120, 59, 120, 59, 120, 59, 120, 59, 120, 59, 120, 59, 120, 59, 120, 59, 120, 0, 0, 0, 0, 0, 0, 0, 0, 0, 0, 0, 0, 0, 0, 0, 0, 0, 0, 0, 0, 0, 0, 0, 0, 0, 0, 0, 0, 0, 0, 0, 0, 0, 0, 0]
theorem te_e48 : upd (fnL te_T41) 24 (nI 120) = fnL te_T42 := fn_eq 60 (by decide +kernel) (by decide +kernel) (fun j hj => (pk_un (by omega)).trans (fnL_hi (l := te_T41) (by rw [show te_T41.length = 60 from by decide +kernel]; exact hj)))
def te_T43 : List Nat := [120, 59, 120, 59, 120, 59, 120, 59, 120, 59, 120, 59, 120, 59, 120, 59, 120, 59, 120, 59, 120, 59, 120, 59, 120, 59, 0, 0, 0, 0, 0, 0, 0, 0, 0, 0, 0, 0, 0, 0, 0, 0, 0, 0, 0, 0, 0, 0, 0, 0, 0, 0, 0, 0, 0, 0, 0, 0, 0, 0]
theorem te_e49 : upd (fnL te_T42) 25 (nI 59) = fnL te_T43 := fn_eq 60 (by decide +kernel) (by decide +kernel) (fun j hj => (pk_un (by omega)).trans (fnL_hi (l := te_T42) (by rw [show te_T42.length = 60 from by decide +kernel]; exact hj)))
def te_T44 : List Nat := [120, 59, 120, 59, 120, 59, 120, 59, 120, 59, 120, 59, 120, 59, 120, 59, 120, 59, 120, 59, 120, 59, 120, 59, 120, 59, 120, 0, 0, 0, 0, 0, 0, 0, 0, 0, 0, 0, 0, 0, 0, 0, 0, 0, 0, 0, 0, 0, 0, 0, 0, 0, 0, 0, 0, 0, 0, 0, 0, 0]
theorem te_e50 : upd (fnL te_T43) 26 (nI 120) = fnL te_T44 := fn_eq 60 (by decide +kernel) (by decide +kernel) (fun j hj => (pk_un (by omega)).trans (fnL_hi (l := te_T43) (by rw [show te_T43.length = 60 from by decide +kernel]; exact hj)))
def te_T45 : List Nat := [120, 59, 120, 59, 120, 59, 120, 59, 120, 59, 120, 59, 120, 59, 120, 59, 120, 59, 120, 59, 120, 59, 120, 59, 120, 59, 120, 59, 0, 0, 0, 0, 0, 0, 0, 0, 0, 0, 0, 0, 0, 0, 0, 0, 0, 0, 0, 0, 0, 0, 0, 0, 0, 0, 0, 0, 0, 0, 0, 0]
theorem te_e51 : upd (fnL te_T44) 27 (nI 59) = fnL te_T45 := fn_eq 60 (by decide +kernel) (by decide +kernel) (fun j hj => (pk_un (by omega)).trans (fnL_hi (l := te_T44) (by rw [show te_T44.length = 60 from by decide +kernel]; exact hj)))
def te_T46 : List Nat := [120, 59, 120, 59, 120, 59, 120, 59, 120, 59, 120, 59, 120, 59, 120, 59, 120, 59, 120, 59, 120, 59, 120, 59, 120, 59, 120, 59, 120, 0, 0, 0, 0, 0, 0, 0, 0, 0, 0, 0, 0, 0, 0, 0, 0, 0, 0, 0, 0, 0, 0, 0, 0, 0, 0, 0, 0, 0, 0, 0]
theorem te_e52 : upd (fnL te_T45) 28 (nI 120) = fnL te_T46 := fn_eq 60 (by decide +kernel) (by decide +kernel) (fun j hj => (pk_un (by omega)).trans (fnL_hi (l := te_T45) (by rw [show te_T45.length = 60 from by decide +kernel]; exact hj)))
def te_T47 : List Nat := [120, 59, 120, 59, 120, 59, 120, 59, 120, 59, 120, 59, 120, 59, 120, 59, 120, 59, 120, 59, 120, 59, 120, 59, 120, 59, 120, 59, 120, 59, 0, 0, 0, 0, 0, 0, 0, 0, 0, 0, 0, 0, 0, 0, 0, 0, 0, 0, 0, 0, 0, 0, 0, 0, 0, 0, 0, 0, 0, 0]
theorem te_e53 : upd (fnL te_T46) 29 (nI 59) = fnL te_T47 := fn_eq 60 (by decide +kernel) (by decide +kernel) (fun j hj => (pk_un (by omega)).trans (fnL_hi (l := te_T46) (by rw [show te_T46.length = 60 from by decide +kernel]; exact hj)))
def te_T48 : List Nat := [120, 59, 120, 59, 120, 59, 120, 59, 120, 59, 120, 59, 120, 59, 120, 59, 120, 59, 120, 59, 120, 59, 120, 59, 120, 59, 120, 59, 120, 59, 120, 0, 0, 0, 0, 0, 0, 0, 0, 0, 0, 0, 0, 0, 0, 0, 0, 0, 0, 0, 0, 0, 0, 0, 0, 0, 0, 0, 0, 0]
theorem te_e54 : upd (fnL te_T47) 30 (nI 120) = fnL te_T48 := fn_eq 60 (by decide +kernel) (by decide +kernel) (fun j hj => (pk_un (by omega)).trans (fnL_hi (l := te_T47) (by rw [show te_T47.length = 60 from by decide +kernel]; exact hj)))
def te_T49 : List Nat := [120, 59, 120, 59, 120, 59, 120, 59, 120, 59, 120, 59, 120, 59, 120, 59, 120, 59, 120, 59, 120, 59, 120, 59, 120, 59, 120, 59, 120, 59, 120, 59, 0, 0, 0, 0, 0, 0, 0, 0, 0, 0, 0, 0, 0, 0, 0, 0, 0, 0, 0, 0, 0, 0, 0, 0, 0, 0, 0, 0]
theorem te_e55 : upd (fnL te_T48) 31 (nI 59) = fnL te_T49 := fn_eq 60 (by decide +kernel) (by decide +kernel) (fun j hj => (pk_un (by omega)).trans (fnL_hi (l := te_T48) (by rw [show te_T48.length = 60 from by decide +kernel]; exact hj)))
def te_T50 : List Nat := [120, 59, 120, 59, 120, 59, 120, 59, 120, 59, 120, 59, 120, 59, 120, 59, 120, 59, 120, 59, 120, 59, 120, 59, 120, 59, 120, 59, 120, 59, 120, 59, 120, 0, 0, 0, 0, 0, 0, 0, 0, 0, 0, 0, 0, 0, 0, 0, 0, 0, 0, 0, 0, 0, 0, 0, 0, 0, 0, 0]
theorem te_e56 : upd (fnL te_T49) 32 (nI 120) = fnL te_T50 := fn_eq 60 (by decide +kernel) (by decide +kernel) (fun j hj => (pk_un (by omega)).trans (fnL_hi (l := te_T49) (by rw [show te_T49.length = 60 from by decide +kernel]; exact hj)))
def te_T51 : List Nat := [120, 59, 120, 59, 120, 59, 120, 59, 120, 59, 120, 59, 120, 59, 120, 59, 120, 59, 120, 59, 120, 59, 120, 59, 120, 59, 120, 59, 120, 59, 120, 59, 120, 59, 0, 0, 0, 0, 0, 0, 0, 0, 0, 0, 0, 0, 0, 0, 0, 0, 0, 0, 0, 0, 0, 0, 0, 0, 0, 0]
theorem te_e57 : upd (fnL te_T50) 33 (nI 59) = fnL te_T51 := fn_eq 60 (by decide +kernel) (by decide +kernel) (fun j hj => (pk_un (by omega)).trans (fnL_hi (l := te_T50) (by rw [show te_T50.length = 60 from by decide +kernel]; exact hj)))
def te_T52 : List Nat := [120, 59, 120, 59, 120, 59, 120, 59, 120, 59, 120, 59, 120, 59, 120, 59, 120, 59, 120, 59, 120, 59, 120, 59, 120, 59, 120, 59, 120, 59, 120, 59, 120, 59, 120, 0, 0, 0, 0, 0, 0, 0, 0, 0, 0, 0, 0, 0, 0, 0, 0, 0, 0, 0, 0, 0, 0, 0, 0, 0]
theorem te_e58 : upd (fnL te_T51) 34 (nI 120) = fnL te_T52 := fn_eq 60 (by decide +kernel) (by decide +kernel) (fun j hj => (pk_un (by omega)).trans (fnL_hi (l := te_T51) (by rw [show te_T51.length = 60 from by decide +kernel]; exact hj)))
def te_T53 : List Nat := [120, 59, 120, 59, 120, 59, 120, 59, 120, 59, 120, 59, 120, 59, 120, 59, 120, 59, 120, 59, 120, 59, 120, 59, 120, 59, 120, 59, 120, 59, 120, 59, 120, 59, 120, 59, 0, 0, 0, 0, 0, 0, 0, 0, 0, 0, 0, 0, 0, 0, 0, 0, 0, 0, 0, 0, 0, 0, 0, 0]

theorem te_e59 : upd (fnL te_T52) 35 (nI 59) = fnL te_T53 := fn_eq 60 (by decide +kernel) (by decide +kernel) (fun j hj => (pk_un (by omega)).trans (fnL_hi (l := te_T52) (by rw [show te_T52.length = 60 from by decide +kernel]; exact hj)))
def te_T54 : List Nat := [120, 59, 120, 59, 120, 59, 120, 59, 120, 59, 120, 59, 120, 59, 120, 59, 120, 59, 120, 59, 120, 59, 120, 59, 120, 59, 120, 59, 120, 59, 120, 59, 120, 59, 120, 59, 120, 0, 0, 0, 0, 0, 0, 0, 0, 0, 0, 0, 0, 0, 0, 0, 0, 0, 0, 0, 0, 0, 0, 0]
theorem te_e60 : upd (fnL te_T53) 36 (nI 120) = fnL te_T54 := fn_eq 60 (by decide +kernel) (by decide +kernel) (fun j hj => (pk_un (by omega)).trans (fnL_hi (l := te_T53) (by rw [show te_T53.length = 60 from by decide +kernel]; exact hj)))
def te_T55 : List Nat := [120, 59, 120, 59, 120, 59, 120, 59, 120, 59, 120, 59, 120, 59, 120, 59, 120, 59, 120, 59, 120, 59, 120, 59, 120, 59, 120, 59, 120, 59, 120, 59, 120, 59, 120, 59, 120, 59, 0, 0, 0, 0, 0, 0, 0, 0, 0, 0, 0, 0, 0, 0, 0, 0, 0, 0, 0, 0, 0, 0]
theorem te_e61 : upd (fnL te_T54) 37 (nI 59) = fnL te_T55 := fn_eq 60 (by decide +kernel) (by decide +kernel) (fun j hj => (pk_un (by omega)).trans (fnL_hi (l := te_T54) (by rw [show te_T54.length = 60 from by decide +kernel]; exact hj)))
def te_T56 : List Nat := [120, 59, 120, 59, 120, 59, 120, 59, 120, 59, 120, 59, 120, 59, 120, 59, 120, 59, 120, 59, 120, 59, 120, 59, 120, 59, 120, 59, 120, 59, 120, 59, 120, 59, 120, 59, 120, 59, 120, 0, 0, 0, 0, 0, 0, 0, 0, 0, 0, 0, 0, 0, 0, 0, 0, 0, 0, 0, 0, 0]
theorem te_e62 : upd (fnL te_T55) 38 (nI 120) = fnL te_T56 := fn_eq 60 (by decide +kernel) (by decide +kernel) (fun j hj => (pk_un (by omega)).trans (fnL_hi (l := te_T55) (by rw [show te_T55.length = 60 from by decide +kernel]; exact hj)))
def te_T57 : List Nat := [120, 59, 120, 59, 120, 59, 120, 59, 120, 59, 120, 59, 120, 59, 120, 59, 120, 59, 120, 59, 120, 59, 120, 59, 120, 59, 120, 59, 120, 59, 120, 59, 120, 59, 120, 59, 120, 59, 120, 59, 0, 0, 0, 0, 0, 0, 0, 0, 0, 0, 0, 0, 0, 0, 0, 0, 0, 0, 0, 0]
theorem te_e63 : upd (fnL te_T56) 39 (nI 59) = fnL te_T57 := fn_eq 60 (by decide +kernel) (by decide +kernel) (fun j hj => (pk_un (by omega)).trans (fnL_hi (l := te_T56) (by rw [show te_T56.length = 60 from by decide +kernel]; exact hj)))
def te_T58 : List Nat := [120, 59, 120, 59, 120, 59, 120, 59, 120, 59, 120, 59, 120, 59, 120, 59, 120, 59, 120, 59, 120, 59, 120, 59, 120, 59, 120, 59, 120, 59, 120, 59, 120, 59, 120, 59, 120, 59, 120, 59, 120, 0, 0, 0, 0, 0, 0, 0, 0, 0, 0, 0, 0, 0, 0, 0, 0, 0, 0, 0]
theorem te_e64 : upd (fnL te_T57) 40 (nI 120) = fnL te_T58 := fn_eq 60 (by decide +kernel) (by decide +kernel) (fun j hj => (pk_un (by omega)).trans (fnL_hi (l := te_T57) (by rw [show te_T57.length = 60 from by decide +kernel]; exact hj)))
def te_T59 : List Nat := [120, 59, 120, 59, 120, 59, 120, 59, 120, 59, 120, 59, 120, 59, 120, 59, 120, 59, 120, 59, 120, 59, 120, 59, 120, 59, 120, 59, 120, 59, 120, 59, 120, 59, 120, 59, 120, 59, 120, 59, 120, 59, 0, 0, 0, 0, 0, 0, 0, 0, 0, 0, 0, 0, 0, 0, 0, 0, 0, 0]
theorem te_e65 : upd (fnL te_T58) 41 (nI 59) = fnL te_T59 := fn_eq 60 (by decide +kernel) (by decide +kernel) (fun j hj => (pk_un (by omega)).trans (fnL_hi (l := te_T58) (by rw [show te_T58.length = 60 from by decide +kernel]; exact hj)))
def te_T60 : List Nat := [120, 59, 120, 59, 120, 59, 120, 59, 120, 59, 120, 59, 120, 59, 120, 59, 120, 59, 120, 59, 120, 59, 120, 59, 120, 59, 120, 59, 120, 59, 120, 59, 120, 59, 120, 59, 120, 59, 120, 59, 120, 59, 120, 0, 0, 0, 0, 0, 0, 0, 0, 0, 0, 0, 0, 0, 0, 0, 0, 0]
theorem te_e66 : upd (fnL te_T59) 42 (nI 120) = fnL te_T60 := fn_eq 60 (by decide +kernel) (by decide +kernel) (fun j hj => (pk_un (by omega)).trans (fnL_hi (l := te_T59) (by rw [show te_T59.length = 60 from by decide +kernel]; exact hj)))
def te_T61 : List Nat := [120, 59, 120, 59, 120, 59, 120, 59, 120, 59, 120, 59, 120, 59, 120, 59, 120, 59, 120, 59, 120, 59, 120, 59, 120, 59, 120, 59, 120, 59, 120, 59, 120, 59, 120, 59, 120, 59, 120, 59, 120, 59, 120, 59, 0, 0, 0, 0, 0, 0, 0, 0, 0, 0, 0, 0, 0, 0, 0, 0]
theorem te_e67 : upd (fnL te_T60) 43 (nI 59) = fnL te_T61 := fn_eq 60 (by decide +kernel) (by decide +kernel) (fun j hj => (pk_un (by omega)).trans (fnL_hi (l := te_T60) (by rw [show te_T60.length = 60 from by decide +kernel]; exact hj)))
def te_T62 : List Nat := [120, 59, 120, 59, 120, 59, 120, 59, 120, 59, 120, 59, 120, 59, 120, 59, 120, 59, 120, 59, 120, 59, 120, 59, 120, 59, 120, 59, 120, 59, 120, 59, 120, 59, 120, 59, 120, 59, 120, 59, 120, 59, 120, 59, 120, 0, 0, 0, 0, 0, 0, 0, 0, 0, 0, 0, 0, 0, 0, 0]
theorem te_e68 : upd (fnL te_T61) 44 (nI 120) = fnL te_T62 := fn_eq 60 (by decide +kernel) (by decide +kernel) (fun j hj => (pk_un (by omega)).trans (fnL_hi (l := te_T61) (by rw [show te_T61.length = 60 from by decide +kernel]; exact hj)))
def te_T63 : List Nat := [120, 59, 120, 59, 120, 59, 120, 59, 120, 59, 120, 59, 120, 59, 120, 59, 120, 59, 120, 59, 120, 59, 120, 59, 120, 59, 120, 59, 120, 59, 120, 59, 120, 59, 120, 59, 120, 59, 120, 59, 120, 59, 120, 59, 120, 59, 0, 0, 0, 0, 0, 0, 0, 0, 0, 0, 0, 0, 0, 0]
theorem te_e69 : upd (fnL te_T62) 45 (nI 59) = fnL te_T63 := fn_eq 60 (by decide +kernel) (by decide +kernel) (fun j hj => (pk_un (by omega)).trans (fnL_hi (l := te_T62) (by rw [show te_T62.length = 60 from by decide +kernel]; exact hj)))
def te_T64 : List Nat := [120, 59, 120, 59, 120, 59, 120, 59, 120, 59, 120, 59, 120, 59, 120, 59, 120, 59, 120, 59, 120, 59, 120, 59, 120, 59, 120, 59, 120, 59, 120, 59, 120, 59, 120, 59, 120, 59, 120, 59, 120, 59, 120, 59, 120, 59, 120, 0, 0, 0, 0, 0, 0, 0, 0, 0, 0, 0, 0, 0]
theorem te_e70 : upd (fnL te_T63) 46 (nI 120) = fnL te_T64 := fn_eq 60 (by decide +kernel) (by decide +kernel) (fun j hj => (pk_un (by omega)).trans (fnL_hi (l := te_T63) (by rw [show te_T63.length = 60 from by decide +kernel]; exact hj)))
def te_T65 : List Nat := [120, 59, 120, 59, 120, 59, 120, 59, 120, 59, 120, 59, 120, 59, 120, 59, 120, 59, 120, 59, 120, 59, 120, 59, 120, 59, 120, 59, 120, 59, 120, 59, 120, 59, 120, 59, 120, 59, 120, 59, 120, 59, 120, 59, 120, 59, 120, 59, 0, 0, 0, 0, 0, 0, 0, 0, 0, 0, 0, 0]
theorem te_e71 : upd (fnL te_T64) 47 (nI 59) = fnL te_T65 := fn_eq 60 (by decide +kernel) (by decide +kernel) (fun j hj => (pk_un (by omega)).trans (fnL_hi (l := te_T64) (by rw [show te_T64.length = 60 from by decide +kernel]; exact hj)))
def te_T66 : List Nat := [120, 59, 120, 59, 120, 59, 120, 59, 120, 59, 120, 59, 120, 59, 120, 59, 120, 59, 120, 59, 120, 59, 120, 59, 120, 59, 120, 59, 120, 59, 120, 59, 120, 59, 120, 59, 120, 59, 120, 59, 120, 59, 120, 59, 120, 59, 120, 59, 120, 0, 0, 0, 0, 0, 0, 0, 0, 0, 0, 0]
theorem te_e72 : upd (fnL te_T65) 48 (nI 120) = fnL te_T66 := fn_eq 60 (by decide +kernel) (by decide +kernel) (fun j hj => (pk_un (by omega)).trans (fnL_hi (l := te_T65) (by rw [show te_T65.length = 60 from by decide +kernel]; exact hj)))
def te_T67 : List Nat := [120, 59, 120, 59, 120, 59, 120, 59, 120, 59, 120, 59, 120, 59, 120, 59, 120, 59, 120, 59, 120, 59, 120, 59, 120, 59, 120, 59, 120, 59, 120, 59, 120, 59, 120, 59, 120, 59, 120, 59, 120, 59, 120, 59, 120, 59, 120, 59, 120, 59, 0, 0, 0, 0, 0, 0, 0, 0, 0, 0]
theorem te_e73 : upd (fnL te_T66) 49 (nI 59) = fnL te_T67 := fn_eq 60 (by decide +kernel) (by decide +kernel) (fun j hj => (pk_un (by omega)).trans (fnL_hi (l := te_T66) (by rw [show te_T66.length = 60 from by decide +kernel]; exact hj)))
def te_T68 : List Nat := [120, 59, 120, 59, 120, 59, 120, 59, 120, 59, 120, 59, 120, 59, 120, 59, 120, 59, 120, 59, 120, 59, 120, 59, 120, 59, 120, 59, 120, 59, 120, 59, 120, 59, 120, 59, 120, 59, 120, 59, 120, 59, 120, 59, 120, 59, 120, 59, 120, 59, 120, 0, 0, 0, 0, 0, 0, 0, 0, 0]
theorem te_e74 : upd (fnL te_T67) 50 (nI 120) = fnL te_T68 := fn_eq 60 (by decide +kernel) (by decide +kernel) (fun j hj => (pk_un (by omega)).trans (fnL_hi (l := te_T67) (by rw [show te_T67.length = 60 from by decide +kernel]; exact hj)))
def te_T69 : List Nat := [120, 59, 120, 59, 120, 59, 120, 59, 120, 59, 120, 59, 120, 59, 120, 59, 120, 59, 120, 59, 120, 59, 120, 59, 120, 59, 120, 59, 120, 59, 120, 59, 120, 59, 120, 59, 120, 59, 120, 59, 120, 59, 120, 59, 120, 59, 120, 59, 120, 59, 120, 59, 0, 0, 0, 0, 0, 0, 0, 0]
theorem te_e75 : upd (fnL te_T68) 51 (nI 59) = fnL te_T69 := fn_eq 60 (by decide +kernel) (by decide +kernel) (fun j hj => (pk_un (by omega)).trans (fnL_hi (l := te_T68) (by rw [show te_T68.length = 60 from by decide +kernel]; exact hj)))
def te_T70 : List Nat := [120, 59, 120, 59, 120, 59, 120, 59, 120, 59, 120, 59, 120, 59, 120, 59, 120, 59, 120, 59, 120, 59, 120, 59, 120, 59, 120, 59, 120, 59, 120, 59, 120, 59, 120, 59, 120, 59, 120, 59, 120, 59, 120, 59, 120, 59, 120, 59, 120, 59, 120, 59, 120, 0, 0, 0, 0, 0, 0, 0]
theorem te_e76 : upd (fnL te_T69) 52 (nI 120) = fnL te_T70 := fn_eq 60 (by decide +kernel) (by decide +kernel) (fun j hj => (pk_un (by omega)).trans (fnL_hi (l := te_T69) (by rw [show te_T69.length = 60 from by decide +kernel]; exact hj)))
def te_T71 : List Nat := [120, 59, 120, 59, 120, 59, 120, 59, 120, 59, 120, 59, 120, 59, 120, 59, 120, 59, 120, 59, 120, 59, 120, 59, 120, 59, 120, 59, 120, 59, 120, 59, 120, 59, 120, 59, 120, 59, 120, 59, 120, 59, 120, 59, 120, 59, 120, 59, 120, 59, 120, 59, 120, 59, 0, 0, 0, 0, 0, 0]
theorem te_e77 : upd (fnL te_T70) 53 (nI 59) = fnL te_T71 := fn_eq 60 (by decide +kernel) (by decide +kernel) (fun j hj => (pk_un (by omega)).trans (fnL_hi (l := te_T70) (by rw [show te_T70.length = 60 from by decide +kernel]; exact hj)))
def te_T72 : List Nat := [120, 59, 120, 59, 120, 59, 120, 59, 120, 59, 120, 59, 120, 59, 120, 59, 120, 59, 120, 59, 120, 59, 120, 59, 120, 59, 120, 59, 120, 59, 120, 59, 120, 59, 120, 59, 120, 59, 120, 59, 120, 59, 120, 59, 120, 59, 120, 59, 120, 59, 120, 59, 120, 59, 120, 0, 0, 0, 0, 0]
theorem te_e78 : upd (fnL te_T71) 54 (nI 120) = fnL te_T72 := fn_eq 60 (by decide +kernel) (by decide +kernel) (fun j hj => (pk_un (by omega)).trans (fnL_hi (l := te_T71) (by rw [show te_T71.length = 60 from by decide +kernel]; exact hj)))
def te_T73 : List Nat := [120, 59, 120, 59, 120, 59, 120, 59, 120, 59, 120, 59, 120, 59, 120, 59, 120, 59, 120, 59, 120, 59, 120, 59, 120, 59, 120, 59, 120, 59, 120, 59, 120, 59, 120, 59, 120, 59, 120, 59, 120, 59, 120, 59, 120, 59, 120, 59, 120, 59, 120, 59, 120, 59, 120, 59, 0, 0, 0, 0]
theorem te_e79 : upd (fnL te_T72) 55 (nI 59) = fnL te_T73 := fn_eq 60 (by decide +kernel) (by decide +kernel) (fun j hj => (pk_un (by omega)).trans (fnL_hi (l := te_T72) (by rw [show te_T72.length = 60 from by decide +kernel]; exact hj)))
def te_T74 : List Nat := [120, 59, 120, 59, 120, 59, 120, 59, 120, 59, 120, 59, 120, 59, 120, 59, 120, 59, 120, 59, 120, 59, 120, 59, 120, 59, 120, 59, 120, 59, 120, 59, 120, 59, 120, 59, 120, 59, 120, 59, 120, 59, 120, 59, 120, 59, 120, 59, 120, 59, 120, 59, 120, 59, 120, 59, 120, 0, 0, 0]
theorem te_e80 : upd (fnL te_T73) 56 (nI 120) = fnL te_T74 := fn_eq 60 (by decide +kernel) (by decide +kernel) (fun j hj => (pk_un (by omega)).trans (fnL_hi (l := te_T73) (by rw [show te_T73.length = 60 from by decide +kernel]; exact hj)))
def te_T75 : List Nat := [120, 59, 120, 59, 120, 59, 120, 59, 120, 59, 120, 59, 120, 59, 120, 59, 120, 59, 120, 59, 120, 59, 120, 59, 120, 59, 120, 59, 120, 59, 120, 59, 120, 59, 120, 59, 120, 59, 120, 59, 120, 59, 120, 59, 120, 59, 120, 59, 120, 59, 120, 59, 120, 59, 120, 59, 120, 59, 0, 0]
theorem te_e81 : upd (fnL te_T74) 57 (nI 59) = fnL te_T75 := fn_eq 60 (by decide +kernel) (by decide +kernel) (fun j hj => (pk_un (by omega)).trans (fnL_hi (l := te_T74) (by rw [show te_T74.length = 60 from by decide +kernel]; exact hj)))
def te_T76 : List Nat := [120, 59, 120, 59, 120, 59, 120, 59, 120, 59, 120, 59, 120, 59, 120, 59, 120, 59, 120, 59, 120, 59, 120, 59, 120, 59, 120, 59, 120, 59, 120, 59, 120, 59, 120, 59, 120, 59, 120, 59, 120, 59, 120, 59, 120, 59, 120, 59, 120, 59, 120, 59, 120, 59, 120, 59, 120, 59, 120, 0]
theorem te_e82 : upd (fnL te_T75) 58 (nI 120) = fnL te_T76 := fn_eq 60 (by decide +kernel) (by decide +kernel) (fun j hj => (pk_un (by omega)).trans (fnL_hi (l := te_T75) (by rw [show te_T75.length = 60 from by decide +kernel]; exact hj)))
def te_T77 : List Nat := [120, 59, 120, 59, 120, 59, 120, 59, 120, 59, 120, 59, 120, 59, 120, 59, 120, 59, 120, 59, 120, 59, 120, 59, 120, 59, 120, 59, 120, 59, 120, 59, 120, 59, 120, 59, 120, 59, 120, 59, 120, 59, 120, 59, 120, 59, 120, 59, 120, 59, 120, 59, 120, 59, 120, 59, 120, 59, 120, 59]
theorem te_e83 : upd (fnL te_T76) 59 (nI 59) = fnL te_T77 := fn_eq 60 (by decide +kernel) (by decide +kernel) (fun j hj => (pk_un (by omega)).trans (fnL_hi (l := te_T76) (by rw [show te_T76.length = 60 from by decide +kernel]; exact hj)))
set_option maxHeartbeats 8000000 in
set_option maxRecDepth 100000 in
theorem te_s7 {p : Program} {l : Launch} {e : Env} {s : State} {m : MethodId} {below : List Frame} {meth : Method} {c : Code} {G : eG} {lo : Nat} (hlt : l.stackTraces = false) (hL : LC cL_texts 2 wsL_texts p s m meth c ([] : List Value).toArray G lo) {q0 : Nat} {ff2 : Nat → Nat → Int32} {WC : va_W} {H : Heap} {locs : List Loc} {ls : Array Slot} (hX : XS G q0 (fnL L0) (fnL L0) ff2 0 0 60 (fnL te_T77) (nI 0) WC) (hR : PR 20000 (fnL L0) (fnL L0) ff2 0 0 60 (fnL te_T77) (nI 0)) (hP : va_P G.1 vwCl (WC ++ []) H) (hD : va_D (AA s) (WC ++ [])) (hS : va_S (AA s) s.heap H locs) (hl : lv_has ls 2 [(1, .int (nI 29)), (0, .ref q0)]) : W p l e ({ frames := 8, cells := 162, slots := 1336, locals := 205 }) s m ([] : List Value).toArray below meth c H locs 160 1324 (MQ below (MV (some (.int (nI 1))) (fun _ => True) (AA s)) ([] : List Value).toArray s 162 1336 (AA s)) (F0 m 479 ls []) := by
  have hL9 := hL
  obtain ⟨hx, hb, hml, hown, hts, hE, hJ0, hF0, hr, hlocks⟩ := hL
  have hAl : ∀ q, AA s q → lo ≤ q := fun q h => Nat.le_trans hJ0.1 h
  have hA : ∀ q : Nat, s.heap.size ≤ q → AA s q := fun _ h => h
  have hJ : JB lo s _ := hJ0.S hAl hS
  refine lv_iinc (v := nI 30) (lv' := [(1, .int (nI 30)), (0, .ref q0)]) hx hb dL_texts_479 hl (k := 0) rfl (by decide +kernel) (by decide) rfl (fun ls hl => ?_)
  refine lv_goto (tgt := 443) hx hb dL_texts_482 (by decide) ?_
  refine lv_iload_n hx hb dL_texts_443 rfl (lv_at hl 0 rfl) ?_
  refine lv_bipush (v := nI 30) hx hb dL_texts_444 (by decide +kernel) ?_
  refine lv_icmp_ge (tgt := 485) hx hb dL_texts_446 (by decide) (fun _ => ?_) (fun h => absurd h (by decide +kernel))
  refine lv_aload_n hx hb dL_texts_485 rfl (lv_at hl 1 rfl) ?_
  refine lv_bipush (v := nI 8) hx hb dL_texts_486 (by decide +kernel) ?_
  refine lv_bipush (v := nI 120) hx hb dL_texts_488 (by decide +kernel) ?_
  refine lv_iconst (v := nI 0) hx hb dL_texts_490 (by decide +kernel) ?_
  refine cxc (st1 := [.int (-13)]) (vx_runSW (As := [.ref q0, .int (nI 8), .int (nI 120), .int (nI 0)]) (rest := []) ⟨hx, hb, hml, hown, hts⟩ (CC_append_e2 l hlt G hX hR (by decide) rfl 120 (by decide +kernel) (by decide +kernel) (nI 0)) (vx_cwSW 4 hts gL_texts_L_call rfl rfl rfl (by decide +kernel) ⟨Nat.le_of_ble_eq_true rfl, Nat.le_of_ble_eq_true rfl⟩) (PK.preS hE hJ ⟨P_pre hP, D_al hAl (D_pre hD)⟩) rfl rfl hl.1 rfl (lv_room (Nat.le_of_ble_eq_true rfl)) dL_texts_491 ⟨Nat.le_of_ble_eq_true rfl, Nat.le_of_ble_eq_true rfl⟩) hP hD hS hJ0 hAl rfl (fun WC H locs hX hP hD hS hJ => ?_)
  refine lv_bipush (v := -13) hx hb dL_texts_494 (by decide +kernel) ?_
  refine lv_icmp_ne (tgt := 552) hx hb dL_texts_496 (by decide) (fun h => absurd h (by decide +kernel)) (fun _ => ?_)
  refine lv_aload_n hx hb dL_texts_499 rfl (lv_at hl 1 rfl) ?_
  refine cx0 (st1 := [.int (nI (rR (nn (fnL te_T77)) 60))]) (va_runV (As := []) (rest := []) ⟨hx, hb, hml, hown, hts⟩ (CX_firstError l G hX hR (by decide) ) (cwV 0 hts gL_texts_X5_firstError rfl rfl rfl (by decide +kernel) ⟨Nat.le_of_ble_eq_true rfl, Nat.le_of_ble_eq_true rfl⟩) (PJ.preV hE hJ.jx (xs_recv hE.1 hX (P_pre hP)) ⟨P_pre hP, D_tr (D_pre hD)⟩) rfl rfl hl.1 rfl (lv_room (Nat.le_of_ble_eq_true rfl)) dL_texts_500 ⟨Nat.le_of_ble_eq_true rfl, Nat.le_of_ble_eq_true rfl⟩) hP hD hS hJ0 hAl rfl (fun WC H locs hX hP hD hS hJ => ?_)
  refine tI (y := nI 60) (by decide +kernel) ?_
  refine lv_bipush (v := nI 60) hx hb dL_texts_503 (by decide +kernel) ?_
  refine lv_icmp_ne (tgt := 552) hx hb dL_texts_505 (by decide) (fun h => absurd h (by decide +kernel)) (fun _ => ?_)
  refine lv_aload_n hx hb dL_texts_508 rfl (lv_at hl 1 rfl) ?_
  refine lv_bipush (v := nI 9) hx hb dL_texts_509 (by decide +kernel) ?_
  refine lv_iconst (v := nI 0) hx hb dL_texts_511 (by decide +kernel) ?_
  refine lv_iconst (v := nI 0) hx hb dL_texts_512 (by decide +kernel) ?_
  refine cxc (st1 := [.int (-12)]) (vx_runSW (As := [.ref q0, .int (nI 9), .int (nI 0), .int (nI 0)]) (rest := []) ⟨hx, hb, hml, hown, hts⟩ (CC_obey_e1 l hlt G hX hR (by decide) (by decide +kernel) (nI 0) (nI 0)) (vx_cwSW 4 hts gL_texts_L_call rfl rfl rfl (by decide +kernel) ⟨Nat.le_of_ble_eq_true rfl, Nat.le_of_ble_eq_true rfl⟩) (PK.preS hE hJ ⟨P_pre hP, D_al hAl (D_pre hD)⟩) rfl rfl hl.1 rfl (lv_room (Nat.le_of_ble_eq_true rfl)) dL_texts_513 ⟨Nat.le_of_ble_eq_true rfl, Nat.le_of_ble_eq_true rfl⟩) hP hD hS hJ0 hAl rfl (fun WC H locs hX hP hD hS hJ => ?_)
  refine lv_bipush (v := -12) hx hb dL_texts_516 (by decide +kernel) ?_
  refine lv_icmp_ne (tgt := 552) hx hb dL_texts_518 (by decide) (fun h => absurd h (by decide +kernel)) (fun _ => ?_)
  refine lv_aload_n hx hb dL_texts_521 rfl (lv_at hl 1 rfl) ?_
  refine cx0 (st1 := [.int (nI 60)]) (va_runV (As := []) (rest := []) ⟨hx, hb, hml, hown, hts⟩ (CX_clearBuffer l G hX hR (by decide) ) (cwV 0 hts gL_texts_X5_clearBuffer rfl rfl rfl (by decide +kernel) ⟨Nat.le_of_ble_eq_true rfl, Nat.le_of_ble_eq_true rfl⟩) (PJ.preV hE hJ.jx (xs_recv hE.1 hX (P_pre hP)) ⟨P_pre hP, D_tr (D_pre hD)⟩) rfl rfl hl.1 rfl (lv_room (Nat.le_of_ble_eq_true rfl)) dL_texts_522 ⟨Nat.le_of_ble_eq_true rfl, Nat.le_of_ble_eq_true rfl⟩) hP hD hS hJ0 hAl rfl (fun WC H locs hX hP hD hS hJ => ?_)
  have hR := PR_len0 hR
  replace hX : XS G q0 (fnL L0) (fnL L0) ff2 0 0 0 (fnL te_T77) (nI 0) WC := hX
  replace hR : PR 20000 (fnL L0) (fnL L0) ff2 0 0 0 (fnL te_T77) (nI 0) := hR
  refine tI (y := nI 60) (by decide +kernel) ?_
  refine lv_bipush (v := nI 60) hx hb dL_texts_525 (by decide +kernel) ?_
  refine lv_icmp_ne (tgt := 552) hx hb dL_texts_527 (by decide) (fun h => absurd h (by decide +kernel)) (fun _ => ?_)
  refine lv_aload_n hx hb dL_texts_530 rfl (lv_at hl 1 rfl) ?_
  refine lv_bipush (v := nI 8) hx hb dL_texts_531 (by decide +kernel) ?_
  refine cx0 (st1 := [.int (fCnt (fnL L0) 0 8)]) (va_runV (As := [.int (nI 8)]) (rest := []) ⟨hx, hb, hml, hown, hts⟩ (CX_count_ok l G hX hR (by decide) 8 (by decide +kernel)) (cwV 1 hts gL_texts_X5_count rfl rfl rfl (by decide +kernel) ⟨Nat.le_of_ble_eq_true rfl, Nat.le_of_ble_eq_true rfl⟩) (PJ.preV hE hJ.jx (xs_recv hE.1 hX (P_pre hP)) ⟨P_pre hP, D_tr (D_pre hD)⟩) rfl rfl hl.1 rfl (lv_room (Nat.le_of_ble_eq_true rfl)) dL_texts_533 ⟨Nat.le_of_ble_eq_true rfl, Nat.le_of_ble_eq_true rfl⟩) hP hD hS hJ0 hAl rfl (fun WC H locs hX hP hD hS hJ => ?_)
  refine tI (y := nI 0) (by decide +kernel) ?_
  refine lv_if_ne (tgt := 552) hx hb dL_texts_536 (by decide) (fun h => absurd h (by decide +kernel)) (fun _ => ?_)
  refine lv_aload_n hx hb dL_texts_539 rfl (lv_at hl 1 rfl) ?_
  refine lv_bipush (v := nI 13) hx hb dL_texts_540 (by decide +kernel) ?_
  refine cx0 (st1 := [.int (fCnt (fnL L0) 0 13)]) (va_runV (As := [.int (nI 13)]) (rest := []) ⟨hx, hb, hml, hown, hts⟩ (CX_count_ok l G hX hR (by decide) 13 (by decide +kernel)) (cwV 1 hts gL_texts_X5_count rfl rfl rfl (by decide +kernel) ⟨Nat.le_of_ble_eq_true rfl, Nat.le_of_ble_eq_true rfl⟩) (PJ.preV hE hJ.jx (xs_recv hE.1 hX (P_pre hP)) ⟨P_pre hP, D_tr (D_pre hD)⟩) rfl rfl hl.1 rfl (lv_room (Nat.le_of_ble_eq_true rfl)) dL_texts_542 ⟨Nat.le_of_ble_eq_true rfl, Nat.le_of_ble_eq_true rfl⟩) hP hD hS hJ0 hAl rfl (fun WC H locs hX hP hD hS hJ => ?_)
  refine tI (y := nI 0) (by decide +kernel) ?_
  refine lv_if_ne (tgt := 552) hx hb dL_texts_545 (by decide) (fun h => absurd h (by decide +kernel)) (fun _ => ?_)
  refine lv_iconst (v := nI 1) hx hb dL_texts_548 (by decide +kernel) ?_
  refine lv_goto (tgt := 553) hx hb dL_texts_549 (by decide) ?_
  refine W.widen (k := 162) (n := 1336) (Nat.le_of_ble_eq_true rfl) (Nat.le_of_ble_eq_true rfl) ?_
  exact W.zret hx hb hr rfl (fun t ht hW => ⟨rfl, trivial, hS.F ht⟩) hS.2.2 dL_texts_553
set_option maxHeartbeats 8000000 in
set_option maxRecDepth 100000 in
theorem te_s6 {p : Program} {l : Launch} {e : Env} {s : State} {m : MethodId} {below : List Frame} {meth : Method} {c : Code} {G : eG} {lo : Nat} (hlt : l.stackTraces = false) (hL : LC cL_texts 2 wsL_texts p s m meth c ([] : List Value).toArray G lo) {q0 : Nat} {ff2 : Nat → Nat → Int32} {WC : va_W} {H : Heap} {locs : List Loc} {ls : Array Slot} (hX : XS G q0 (fnL L0) (fnL L0) ff2 0 0 40 (fnL te_T57) (nI 0) WC) (hR : PR 20000 (fnL L0) (fnL L0) ff2 0 0 40 (fnL te_T57) (nI 0)) (hP : va_P G.1 vwCl (WC ++ []) H) (hD : va_D (AA s) (WC ++ [])) (hS : va_S (AA s) s.heap H locs) (hl : lv_has ls 2 [(1, .int (nI 19)), (0, .ref q0)]) : W p l e ({ frames := 8, cells := 162, slots := 1336, locals := 205 }) s m ([] : List Value).toArray below meth c H locs 160 1324 (MQ below (MV (some (.int (nI 1))) (fun _ => True) (AA s)) ([] : List Value).toArray s 162 1336 (AA s)) (F0 m 479 ls []) := by
  have hL9 := hL
  obtain ⟨hx, hb, hml, hown, hts, hE, hJ0, hF0, hr, hlocks⟩ := hL
  have hAl : ∀ q, AA s q → lo ≤ q := fun q h => Nat.le_trans hJ0.1 h
  have hA : ∀ q : Nat, s.heap.size ≤ q → AA s q := fun _ h => h
  have hJ : JB lo s _ := hJ0.S hAl hS
  refine lv_iinc (v := nI 20) (lv' := [(1, .int (nI 20)), (0, .ref q0)]) hx hb dL_texts_479 hl (k := 0) rfl (by decide +kernel) (by decide) rfl (fun ls hl => ?_)
  refine lv_goto (tgt := 443) hx hb dL_texts_482 (by decide) ?_
  refine lv_iload_n hx hb dL_texts_443 rfl (lv_at hl 0 rfl) ?_
  refine lv_bipush (v := nI 30) hx hb dL_texts_444 (by decide +kernel) ?_
  refine lv_icmp_ge (tgt := 485) hx hb dL_texts_446 (by decide) (fun h => absurd h (by decide +kernel)) (fun _ => ?_)
  refine lv_aload_n hx hb dL_texts_449 rfl (lv_at hl 1 rfl) ?_
  refine lv_bipush (v := nI 120) hx hb dL_texts_450 (by decide +kernel) ?_
  refine cx0 (st1 := [.int (nI (40 + 1))]) (va_runV (As := [.int (nI 120)]) (rest := []) ⟨hx, hb, hml, hown, hts⟩ (CX_append_ok l G hX hR (by decide) (by decide +kernel) 120 (by decide +kernel) (by decide +kernel)) (cwV 1 hts gL_texts_X5_append rfl rfl rfl (by decide +kernel) ⟨Nat.le_of_ble_eq_true rfl, Nat.le_of_ble_eq_true rfl⟩) (PJ.preV hE hJ.jx (xs_recv hE.1 hX (P_pre hP)) ⟨P_pre hP, D_tr (D_pre hD)⟩) rfl rfl hl.1 rfl (lv_room (Nat.le_of_ble_eq_true rfl)) dL_texts_452 ⟨Nat.le_of_ble_eq_true rfl, Nat.le_of_ble_eq_true rfl⟩) hP hD hS hJ0 hAl rfl (fun WC H locs hX hP hD hS hJ => ?_)
  have hR := PR_app (q := 120) hR (by decide) (by decide)
  rw [te_e64] at hX hR
  replace hX : XS G q0 (fnL L0) (fnL L0) ff2 0 0 41 (fnL te_T58) (nI 0) WC := hX
  replace hR : PR 20000 (fnL L0) (fnL L0) ff2 0 0 41 (fnL te_T58) (nI 0) := hR
  refine tI (y := nI 41) (by decide +kernel) ?_
  refine lv_iconst (v := nI 2) hx hb dL_texts_455 (by decide +kernel) ?_
  refine lv_iload_n hx hb dL_texts_456 rfl (lv_at hl 0 rfl) ?_
  refine lv_imul hx hb dL_texts_457 ?_
  refine tI (y := nI 40) (by decide +kernel) ?_
  refine lv_iconst (v := nI 1) hx hb dL_texts_458 (by decide +kernel) ?_
  refine lv_iadd hx hb dL_texts_459 ?_
  refine tI (y := nI 41) (by decide +kernel) ?_
  refine lv_icmp_ne (tgt := 477) hx hb dL_texts_460 (by decide) (fun h => absurd h (by decide +kernel)) (fun _ => ?_)
  refine lv_aload_n hx hb dL_texts_463 rfl (lv_at hl 1 rfl) ?_
  refine lv_bipush (v := nI 59) hx hb dL_texts_464 (by decide +kernel) ?_
  refine cx0 (st1 := [.int (nI (41 + 1))]) (va_runV (As := [.int (nI 59)]) (rest := []) ⟨hx, hb, hml, hown, hts⟩ (CX_append_ok l G hX hR (by decide) (by decide +kernel) 59 (by decide +kernel) (by decide +kernel)) (cwV 1 hts gL_texts_X5_append rfl rfl rfl (by decide +kernel) ⟨Nat.le_of_ble_eq_true rfl, Nat.le_of_ble_eq_true rfl⟩) (PJ.preV hE hJ.jx (xs_recv hE.1 hX (P_pre hP)) ⟨P_pre hP, D_tr (D_pre hD)⟩) rfl rfl hl.1 rfl (lv_room (Nat.le_of_ble_eq_true rfl)) dL_texts_466 ⟨Nat.le_of_ble_eq_true rfl, Nat.le_of_ble_eq_true rfl⟩) hP hD hS hJ0 hAl rfl (fun WC H locs hX hP hD hS hJ => ?_)
  have hR := PR_app (q := 59) hR (by decide) (by decide)
  rw [te_e65] at hX hR
  replace hX : XS G q0 (fnL L0) (fnL L0) ff2 0 0 42 (fnL te_T59) (nI 0) WC := hX
  replace hR : PR 20000 (fnL L0) (fnL L0) ff2 0 0 42 (fnL te_T59) (nI 0) := hR
  refine tI (y := nI 42) (by decide +kernel) ?_
  refine lv_iconst (v := nI 2) hx hb dL_texts_469 (by decide +kernel) ?_
  refine lv_iload_n hx hb dL_texts_470 rfl (lv_at hl 0 rfl) ?_
  refine lv_imul hx hb dL_texts_471 ?_
  refine tI (y := nI 40) (by decide +kernel) ?_
  refine lv_iconst (v := nI 2) hx hb dL_texts_472 (by decide +kernel) ?_
  refine lv_iadd hx hb dL_texts_473 ?_
  refine tI (y := nI 42) (by decide +kernel) ?_
  refine lv_icmp_eq (tgt := 479) hx hb dL_texts_474 (by decide) (fun _ => ?_) (fun h => absurd h (by decide +kernel))
  refine lv_iinc (v := nI 21) (lv' := [(1, .int (nI 21)), (0, .ref q0)]) hx hb dL_texts_479 hl (k := 0) rfl (by decide +kernel) (by decide) rfl (fun ls hl => ?_)
  refine lv_goto (tgt := 443) hx hb dL_texts_482 (by decide) ?_
  refine lv_iload_n hx hb dL_texts_443 rfl (lv_at hl 0 rfl) ?_
  refine lv_bipush (v := nI 30) hx hb dL_texts_444 (by decide +kernel) ?_
  refine lv_icmp_ge (tgt := 485) hx hb dL_texts_446 (by decide) (fun h => absurd h (by decide +kernel)) (fun _ => ?_)
  refine lv_aload_n hx hb dL_texts_449 rfl (lv_at hl 1 rfl) ?_
  refine lv_bipush (v := nI 120) hx hb dL_texts_450 (by decide +kernel) ?_
  refine cx0 (st1 := [.int (nI (42 + 1))]) (va_runV (As := [.int (nI 120)]) (rest := []) ⟨hx, hb, hml, hown, hts⟩ (CX_append_ok l G hX hR (by decide) (by decide +kernel) 120 (by decide +kernel) (by decide +kernel)) (cwV 1 hts gL_texts_X5_append rfl rfl rfl (by decide +kernel) ⟨Nat.le_of_ble_eq_true rfl, Nat.le_of_ble_eq_true rfl⟩) (PJ.preV hE hJ.jx (xs_recv hE.1 hX (P_pre hP)) ⟨P_pre hP, D_tr (D_pre hD)⟩) rfl rfl hl.1 rfl (lv_room (Nat.le_of_ble_eq_true rfl)) dL_texts_452 ⟨Nat.le_of_ble_eq_true rfl, Nat.le_of_ble_eq_true rfl⟩) hP hD hS hJ0 hAl rfl (fun WC H locs hX hP hD hS hJ => ?_)
  have hR := PR_app (q := 120) hR (by decide) (by decide)
  rw [te_e66] at hX hR
  replace hX : XS G q0 (fnL L0) (fnL L0) ff2 0 0 43 (fnL te_T60) (nI 0) WC := hX
  replace hR : PR 20000 (fnL L0) (fnL L0) ff2 0 0 43 (fnL te_T60) (nI 0) := hR
  refine tI (y := nI 43) (by decide +kernel) ?_
  refine lv_iconst (v := nI 2) hx hb dL_texts_455 (by decide +kernel) ?_
  refine lv_iload_n hx hb dL_texts_456 rfl (lv_at hl 0 rfl) ?_
  refine lv_imul hx hb dL_texts_457 ?_
  refine tI (y := nI 42) (by decide +kernel) ?_
  refine lv_iconst (v := nI 1) hx hb dL_texts_458 (by decide +kernel) ?_
  refine lv_iadd hx hb dL_texts_459 ?_
  refine tI (y := nI 43) (by decide +kernel) ?_
  refine lv_icmp_ne (tgt := 477) hx hb dL_texts_460 (by decide) (fun h => absurd h (by decide +kernel)) (fun _ => ?_)
  refine lv_aload_n hx hb dL_texts_463 rfl (lv_at hl 1 rfl) ?_
  refine lv_bipush (v := nI 59) hx hb dL_texts_464 (by decide +kernel) ?_
  refine cx0 (st1 := [.int (nI (43 + 1))]) (va_runV (As := [.int (nI 59)]) (rest := []) ⟨hx, hb, hml, hown, hts⟩ (CX_append_ok l G hX hR (by decide) (by decide +kernel) 59 (by decide +kernel) (by decide +kernel)) (cwV 1 hts gL_texts_X5_append rfl rfl rfl (by decide +kernel) ⟨Nat.le_of_ble_eq_true rfl, Nat.le_of_ble_eq_true rfl⟩) (PJ.preV hE hJ.jx (xs_recv hE.1 hX (P_pre hP)) ⟨P_pre hP, D_tr (D_pre hD)⟩) rfl rfl hl.1 rfl (lv_room (Nat.le_of_ble_eq_true rfl)) dL_texts_466 ⟨Nat.le_of_ble_eq_true rfl, Nat.le_of_ble_eq_true rfl⟩) hP hD hS hJ0 hAl rfl (fun WC H locs hX hP hD hS hJ => ?_)
  have hR := PR_app (q := 59) hR (by decide) (by decide)
  rw [te_e67] at hX hR
  replace hX : XS G q0 (fnL L0) (fnL L0) ff2 0 0 44 (fnL te_T61) (nI 0) WC := hX
  replace hR : PR 20000 (fnL L0) (fnL L0) ff2 0 0 44 (fnL te_T61) (nI 0) := hR
  refine tI (y := nI 44) (by decide +kernel) ?_
  refine lv_iconst (v := nI 2) hx hb dL_texts_469 (by decide +kernel) ?_
  refine lv_iload_n hx hb dL_texts_470 rfl (lv_at hl 0 rfl) ?_
  refine lv_imul hx hb dL_texts_471 ?_
  refine tI (y := nI 42) (by decide +kernel) ?_
  refine lv_iconst (v := nI 2) hx hb dL_texts_472 (by decide +kernel) ?_
  refine lv_iadd hx hb dL_texts_473 ?_
  refine tI (y := nI 44) (by decide +kernel) ?_
  refine lv_icmp_eq (tgt := 479) hx hb dL_texts_474 (by decide) (fun _ => ?_) (fun h => absurd h (by decide +kernel))
  refine lv_iinc (v := nI 22) (lv' := [(1, .int (nI 22)), (0, .ref q0)]) hx hb dL_texts_479 hl (k := 0) rfl (by decide +kernel) (by decide) rfl (fun ls hl => ?_)
  refine lv_goto (tgt := 443) hx hb dL_texts_482 (by decide) ?_
  refine lv_iload_n hx hb dL_texts_443 rfl (lv_at hl 0 rfl) ?_
  refine lv_bipush (v := nI 30) hx hb dL_texts_444 (by decide +kernel) ?_
  refine lv_icmp_ge (tgt := 485) hx hb dL_texts_446 (by decide) (fun h => absurd h (by decide +kernel)) (fun _ => ?_)
  refine lv_aload_n hx hb dL_texts_449 rfl (lv_at hl 1 rfl) ?_
  refine lv_bipush (v := nI 120) hx hb dL_texts_450 (by decide +kernel) ?_
  refine cx0 (st1 := [.int (nI (44 + 1))]) (va_runV (As := [.int (nI 120)]) (rest := []) ⟨hx, hb, hml, hown, hts⟩ (CX_append_ok l G hX hR (by decide) (by decide +kernel) 120 (by decide +kernel) (by decide +kernel)) (cwV 1 hts gL_texts_X5_append rfl rfl rfl (by decide +kernel) ⟨Nat.le_of_ble_eq_true rfl, Nat.le_of_ble_eq_true rfl⟩) (PJ.preV hE hJ.jx (xs_recv hE.1 hX (P_pre hP)) ⟨P_pre hP, D_tr (D_pre hD)⟩) rfl rfl hl.1 rfl (lv_room (Nat.le_of_ble_eq_true rfl)) dL_texts_452 ⟨Nat.le_of_ble_eq_true rfl, Nat.le_of_ble_eq_true rfl⟩) hP hD hS hJ0 hAl rfl (fun WC H locs hX hP hD hS hJ => ?_)
  have hR := PR_app (q := 120) hR (by decide) (by decide)
  rw [te_e68] at hX hR
  replace hX : XS G q0 (fnL L0) (fnL L0) ff2 0 0 45 (fnL te_T62) (nI 0) WC := hX
  replace hR : PR 20000 (fnL L0) (fnL L0) ff2 0 0 45 (fnL te_T62) (nI 0) := hR
  refine tI (y := nI 45) (by decide +kernel) ?_
  refine lv_iconst (v := nI 2) hx hb dL_texts_455 (by decide +kernel) ?_
  refine lv_iload_n hx hb dL_texts_456 rfl (lv_at hl 0 rfl) ?_
  refine lv_imul hx hb dL_texts_457 ?_
  refine tI (y := nI 44) (by decide +kernel) ?_
  refine lv_iconst (v := nI 1) hx hb dL_texts_458 (by decide +kernel) ?_
  refine lv_iadd hx hb dL_texts_459 ?_
  refine tI (y := nI 45) (by decide +kernel) ?_
  refine lv_icmp_ne (tgt := 477) hx hb dL_texts_460 (by decide) (fun h => absurd h (by decide +kernel)) (fun _ => ?_)
  refine lv_aload_n hx hb dL_texts_463 rfl (lv_at hl 1 rfl) ?_
  refine lv_bipush (v := nI 59) hx hb dL_texts_464 (by decide +kernel) ?_
  refine cx0 (st1 := [.int (nI (45 + 1))]) (va_runV (As := [.int (nI 59)]) (rest := []) ⟨hx, hb, hml, hown, hts⟩ (CX_append_ok l G hX hR (by decide) (by decide +kernel) 59 (by decide +kernel) (by decide +kernel)) (cwV 1 hts gL_texts_X5_append rfl rfl rfl (by decide +kernel) ⟨Nat.le_of_ble_eq_true rfl, Nat.le_of_ble_eq_true rfl⟩) (PJ.preV hE hJ.jx (xs_recv hE.1 hX (P_pre hP)) ⟨P_pre hP, D_tr (D_pre hD)⟩) rfl rfl hl.1 rfl (lv_room (Nat.le_of_ble_eq_true rfl)) dL_texts_466 ⟨Nat.le_of_ble_eq_true rfl, Nat.le_of_ble_eq_true rfl⟩) hP hD hS hJ0 hAl rfl (fun WC H locs hX hP hD hS hJ => ?_)
  have hR := PR_app (q := 59) hR (by decide) (by decide)
  rw [te_e69] at hX hR
  replace hX : XS G q0 (fnL L0) (fnL L0) ff2 0 0 46 (fnL te_T63) (nI 0) WC := hX
  replace hR : PR 20000 (fnL L0) (fnL L0) ff2 0 0 46 (fnL te_T63) (nI 0) := hR
  refine tI (y := nI 46) (by decide +kernel) ?_
  refine lv_iconst (v := nI 2) hx hb dL_texts_469 (by decide +kernel) ?_
  refine lv_iload_n hx hb dL_texts_470 rfl (lv_at hl 0 rfl) ?_
  refine lv_imul hx hb dL_texts_471 ?_
  refine tI (y := nI 44) (by decide +kernel) ?_
  refine lv_iconst (v := nI 2) hx hb dL_texts_472 (by decide +kernel) ?_
  refine lv_iadd hx hb dL_texts_473 ?_
  refine tI (y := nI 46) (by decide +kernel) ?_
  refine lv_icmp_eq (tgt := 479) hx hb dL_texts_474 (by decide) (fun _ => ?_) (fun h => absurd h (by decide +kernel))
  refine lv_iinc (v := nI 23) (lv' := [(1, .int (nI 23)), (0, .ref q0)]) hx hb dL_texts_479 hl (k := 0) rfl (by decide +kernel) (by decide) rfl (fun ls hl => ?_)
  refine lv_goto (tgt := 443) hx hb dL_texts_482 (by decide) ?_
  refine lv_iload_n hx hb dL_texts_443 rfl (lv_at hl 0 rfl) ?_
  refine lv_bipush (v := nI 30) hx hb dL_texts_444 (by decide +kernel) ?_
  refine lv_icmp_ge (tgt := 485) hx hb dL_texts_446 (by decide) (fun h => absurd h (by decide +kernel)) (fun _ => ?_)
  refine lv_aload_n hx hb dL_texts_449 rfl (lv_at hl 1 rfl) ?_
  refine lv_bipush (v := nI 120) hx hb dL_texts_450 (by decide +kernel) ?_
  refine cx0 (st1 := [.int (nI (46 + 1))]) (va_runV (As := [.int (nI 120)]) (rest := []) ⟨hx, hb, hml, hown, hts⟩ (CX_append_ok l G hX hR (by decide) (by decide +kernel) 120 (by decide +kernel) (by decide +kernel)) (cwV 1 hts gL_texts_X5_append rfl rfl rfl (by decide +kernel) ⟨Nat.le_of_ble_eq_true rfl, Nat.le_of_ble_eq_true rfl⟩) (PJ.preV hE hJ.jx (xs_recv hE.1 hX (P_pre hP)) ⟨P_pre hP, D_tr (D_pre hD)⟩) rfl rfl hl.1 rfl (lv_room (Nat.le_of_ble_eq_true rfl)) dL_texts_452 ⟨Nat.le_of_ble_eq_true rfl, Nat.le_of_ble_eq_true rfl⟩) hP hD hS hJ0 hAl rfl (fun WC H locs hX hP hD hS hJ => ?_)
  have hR := PR_app (q := 120) hR (by decide) (by decide)
  rw [te_e70] at hX hR
  replace hX : XS G q0 (fnL L0) (fnL L0) ff2 0 0 47 (fnL te_T64) (nI 0) WC := hX
  replace hR : PR 20000 (fnL L0) (fnL L0) ff2 0 0 47 (fnL te_T64) (nI 0) := hR
  refine tI (y := nI 47) (by decide +kernel) ?_
  refine lv_iconst (v := nI 2) hx hb dL_texts_455 (by decide +kernel) ?_
  refine lv_iload_n hx hb dL_texts_456 rfl (lv_at hl 0 rfl) ?_
  refine lv_imul hx hb dL_texts_457 ?_
  refine tI (y := nI 46) (by decide +kernel) ?_
  refine lv_iconst (v := nI 1) hx hb dL_texts_458 (by decide +kernel) ?_
  refine lv_iadd hx hb dL_texts_459 ?_
  refine tI (y := nI 47) (by decide +kernel) ?_
  refine lv_icmp_ne (tgt := 477) hx hb dL_texts_460 (by decide) (fun h => absurd h (by decide +kernel)) (fun _ => ?_)
  refine lv_aload_n hx hb dL_texts_463 rfl (lv_at hl 1 rfl) ?_
  refine lv_bipush (v := nI 59) hx hb dL_texts_464 (by decide +kernel) ?_
  refine cx0 (st1 := [.int (nI (47 + 1))]) (va_runV (As := [.int (nI 59)]) (rest := []) ⟨hx, hb, hml, hown, hts⟩ (CX_append_ok l G hX hR (by decide) (by decide +kernel) 59 (by decide +kernel) (by decide +kernel)) (cwV 1 hts gL_texts_X5_append rfl rfl rfl (by decide +kernel) ⟨Nat.le_of_ble_eq_true rfl, Nat.le_of_ble_eq_true rfl⟩) (PJ.preV hE hJ.jx (xs_recv hE.1 hX (P_pre hP)) ⟨P_pre hP, D_tr (D_pre hD)⟩) rfl rfl hl.1 rfl (lv_room (Nat.le_of_ble_eq_true rfl)) dL_texts_466 ⟨Nat.le_of_ble_eq_true rfl, Nat.le_of_ble_eq_true rfl⟩) hP hD hS hJ0 hAl rfl (fun WC H locs hX hP hD hS hJ => ?_)
  have hR := PR_app (q := 59) hR (by decide) (by decide)
  rw [te_e71] at hX hR
  replace hX : XS G q0 (fnL L0) (fnL L0) ff2 0 0 48 (fnL te_T65) (nI 0) WC := hX
  replace hR : PR 20000 (fnL L0) (fnL L0) ff2 0 0 48 (fnL te_T65) (nI 0) := hR
  refine tI (y := nI 48) (by decide +kernel) ?_
  refine lv_iconst (v := nI 2) hx hb dL_texts_469 (by decide +kernel) ?_
  refine lv_iload_n hx hb dL_texts_470 rfl (lv_at hl 0 rfl) ?_
  refine lv_imul hx hb dL_texts_471 ?_
  refine tI (y := nI 46) (by decide +kernel) ?_
  refine lv_iconst (v := nI 2) hx hb dL_texts_472 (by decide +kernel) ?_
  refine lv_iadd hx hb dL_texts_473 ?_
  refine tI (y := nI 48) (by decide +kernel) ?_
  refine lv_icmp_eq (tgt := 479) hx hb dL_texts_474 (by decide) (fun _ => ?_) (fun h => absurd h (by decide +kernel))
  refine lv_iinc (v := nI 24) (lv' := [(1, .int (nI 24)), (0, .ref q0)]) hx hb dL_texts_479 hl (k := 0) rfl (by decide +kernel) (by decide) rfl (fun ls hl => ?_)
  refine lv_goto (tgt := 443) hx hb dL_texts_482 (by decide) ?_
  refine lv_iload_n hx hb dL_texts_443 rfl (lv_at hl 0 rfl) ?_
  refine lv_bipush (v := nI 30) hx hb dL_texts_444 (by decide +kernel) ?_
  refine lv_icmp_ge (tgt := 485) hx hb dL_texts_446 (by decide) (fun h => absurd h (by decide +kernel)) (fun _ => ?_)
  refine lv_aload_n hx hb dL_texts_449 rfl (lv_at hl 1 rfl) ?_
  refine lv_bipush (v := nI 120) hx hb dL_texts_450 (by decide +kernel) ?_
  refine cx0 (st1 := [.int (nI (48 + 1))]) (va_runV (As := [.int (nI 120)]) (rest := []) ⟨hx, hb, hml, hown, hts⟩ (CX_append_ok l G hX hR (by decide) (by decide +kernel) 120 (by decide +kernel) (by decide +kernel)) (cwV 1 hts gL_texts_X5_append rfl rfl rfl (by decide +kernel) ⟨Nat.le_of_ble_eq_true rfl, Nat.le_of_ble_eq_true rfl⟩) (PJ.preV hE hJ.jx (xs_recv hE.1 hX (P_pre hP)) ⟨P_pre hP, D_tr (D_pre hD)⟩) rfl rfl hl.1 rfl (lv_room (Nat.le_of_ble_eq_true rfl)) dL_texts_452 ⟨Nat.le_of_ble_eq_true rfl, Nat.le_of_ble_eq_true rfl⟩) hP hD hS hJ0 hAl rfl (fun WC H locs hX hP hD hS hJ => ?_)
  have hR := PR_app (q := 120) hR (by decide) (by decide)
  rw [te_e72] at hX hR
  replace hX : XS G q0 (fnL L0) (fnL L0) ff2 0 0 49 (fnL te_T66) (nI 0) WC := hX
  replace hR : PR 20000 (fnL L0) (fnL L0) ff2 0 0 49 (fnL te_T66) (nI 0) := hR
  refine tI (y := nI 49) (by decide +kernel) ?_
  refine lv_iconst (v := nI 2) hx hb dL_texts_455 (by decide +kernel) ?_
  refine lv_iload_n hx hb dL_texts_456 rfl (lv_at hl 0 rfl) ?_
  refine lv_imul hx hb dL_texts_457 ?_
  refine tI (y := nI 48) (by decide +kernel) ?_
  refine lv_iconst (v := nI 1) hx hb dL_texts_458 (by decide +kernel) ?_
  refine lv_iadd hx hb dL_texts_459 ?_
  refine tI (y := nI 49) (by decide +kernel) ?_
  refine lv_icmp_ne (tgt := 477) hx hb dL_texts_460 (by decide) (fun h => absurd h (by decide +kernel)) (fun _ => ?_)
  refine lv_aload_n hx hb dL_texts_463 rfl (lv_at hl 1 rfl) ?_
  refine lv_bipush (v := nI 59) hx hb dL_texts_464 (by decide +kernel) ?_
  refine cx0 (st1 := [.int (nI (49 + 1))]) (va_runV (As := [.int (nI 59)]) (rest := []) ⟨hx, hb, hml, hown, hts⟩ (CX_append_ok l G hX hR (by decide) (by decide +kernel) 59 (by decide +kernel) (by decide +kernel)) (cwV 1 hts gL_texts_X5_append rfl rfl rfl (by decide +kernel) ⟨Nat.le_of_ble_eq_true rfl, Nat.le_of_ble_eq_true rfl⟩) (PJ.preV hE hJ.jx (xs_recv hE.1 hX (P_pre hP)) ⟨P_pre hP, D_tr (D_pre hD)⟩) rfl rfl hl.1 rfl (lv_room (Nat.le_of_ble_eq_true rfl)) dL_texts_466 ⟨Nat.le_of_ble_eq_true rfl, Nat.le_of_ble_eq_true rfl⟩) hP hD hS hJ0 hAl rfl (fun WC H locs hX hP hD hS hJ => ?_)
  have hR := PR_app (q := 59) hR (by decide) (by decide)
  rw [te_e73] at hX hR
  replace hX : XS G q0 (fnL L0) (fnL L0) ff2 0 0 50 (fnL te_T67) (nI 0) WC := hX
  replace hR : PR 20000 (fnL L0) (fnL L0) ff2 0 0 50 (fnL te_T67) (nI 0) := hR
  refine tI (y := nI 50) (by decide +kernel) ?_
  refine lv_iconst (v := nI 2) hx hb dL_texts_469 (by decide +kernel) ?_
  refine lv_iload_n hx hb dL_texts_470 rfl (lv_at hl 0 rfl) ?_
  refine lv_imul hx hb dL_texts_471 ?_
  refine tI (y := nI 48) (by decide +kernel) ?_
  refine lv_iconst (v := nI 2) hx hb dL_texts_472 (by decide +kernel) ?_
  refine lv_iadd hx hb dL_texts_473 ?_
  refine tI (y := nI 50) (by decide +kernel) ?_
  refine lv_icmp_eq (tgt := 479) hx hb dL_texts_474 (by decide) (fun _ => ?_) (fun h => absurd h (by decide +kernel))
  refine lv_iinc (v := nI 25) (lv' := [(1, .int (nI 25)), (0, .ref q0)]) hx hb dL_texts_479 hl (k := 0) rfl (by decide +kernel) (by decide) rfl (fun ls hl => ?_)
  refine lv_goto (tgt := 443) hx hb dL_texts_482 (by decide) ?_
  refine lv_iload_n hx hb dL_texts_443 rfl (lv_at hl 0 rfl) ?_
  refine lv_bipush (v := nI 30) hx hb dL_texts_444 (by decide +kernel) ?_
  refine lv_icmp_ge (tgt := 485) hx hb dL_texts_446 (by decide) (fun h => absurd h (by decide +kernel)) (fun _ => ?_)
  refine lv_aload_n hx hb dL_texts_449 rfl (lv_at hl 1 rfl) ?_
  refine lv_bipush (v := nI 120) hx hb dL_texts_450 (by decide +kernel) ?_
  refine cx0 (st1 := [.int (nI (50 + 1))]) (va_runV (As := [.int (nI 120)]) (rest := []) ⟨hx, hb, hml, hown, hts⟩ (CX_append_ok l G hX hR (by decide) (by decide +kernel) 120 (by decide +kernel) (by decide +kernel)) (cwV 1 hts gL_texts_X5_append rfl rfl rfl (by decide +kernel) ⟨Nat.le_of_ble_eq_true rfl, Nat.le_of_ble_eq_true rfl⟩) (PJ.preV hE hJ.jx (xs_recv hE.1 hX (P_pre hP)) ⟨P_pre hP, D_tr (D_pre hD)⟩) rfl rfl hl.1 rfl (lv_room (Nat.le_of_ble_eq_true rfl)) dL_texts_452 ⟨Nat.le_of_ble_eq_true rfl, Nat.le_of_ble_eq_true rfl⟩) hP hD hS hJ0 hAl rfl (fun WC H locs hX hP hD hS hJ => ?_)
  have hR := PR_app (q := 120) hR (by decide) (by decide)
  rw [te_e74] at hX hR
  replace hX : XS G q0 (fnL L0) (fnL L0) ff2 0 0 51 (fnL te_T68) (nI 0) WC := hX
  replace hR : PR 20000 (fnL L0) (fnL L0) ff2 0 0 51 (fnL te_T68) (nI 0) := hR
  refine tI (y := nI 51) (by decide +kernel) ?_
  refine lv_iconst (v := nI 2) hx hb dL_texts_455 (by decide +kernel) ?_
  refine lv_iload_n hx hb dL_texts_456 rfl (lv_at hl 0 rfl) ?_
  refine lv_imul hx hb dL_texts_457 ?_
  refine tI (y := nI 50) (by decide +kernel) ?_
  refine lv_iconst (v := nI 1) hx hb dL_texts_458 (by decide +kernel) ?_
  refine lv_iadd hx hb dL_texts_459 ?_
  refine tI (y := nI 51) (by decide +kernel) ?_
  refine lv_icmp_ne (tgt := 477) hx hb dL_texts_460 (by decide) (fun h => absurd h (by decide +kernel)) (fun _ => ?_)
  refine lv_aload_n hx hb dL_texts_463 rfl (lv_at hl 1 rfl) ?_
  refine lv_bipush (v := nI 59) hx hb dL_texts_464 (by decide +kernel) ?_
  refine cx0 (st1 := [.int (nI (51 + 1))]) (va_runV (As := [.int (nI 59)]) (rest := []) ⟨hx, hb, hml, hown, hts⟩ (CX_append_ok l G hX hR (by decide) (by decide +kernel) 59 (by decide +kernel) (by decide +kernel)) (cwV 1 hts gL_texts_X5_append rfl rfl rfl (by decide +kernel) ⟨Nat.le_of_ble_eq_true rfl, Nat.le_of_ble_eq_true rfl⟩) (PJ.preV hE hJ.jx (xs_recv hE.1 hX (P_pre hP)) ⟨P_pre hP, D_tr (D_pre hD)⟩) rfl rfl hl.1 rfl (lv_room (Nat.le_of_ble_eq_true rfl)) dL_texts_466 ⟨Nat.le_of_ble_eq_true rfl, Nat.le_of_ble_eq_true rfl⟩) hP hD hS hJ0 hAl rfl (fun WC H locs hX hP hD hS hJ => ?_)
  have hR := PR_app (q := 59) hR (by decide) (by decide)
  rw [te_e75] at hX hR
  replace hX : XS G q0 (fnL L0) (fnL L0) ff2 0 0 52 (fnL te_T69) (nI 0) WC := hX
  replace hR : PR 20000 (fnL L0) (fnL L0) ff2 0 0 52 (fnL te_T69) (nI 0) := hR
  refine tI (y := nI 52) (by decide +kernel) ?_
  refine lv_iconst (v := nI 2) hx hb dL_texts_469 (by decide +kernel) ?_
  refine lv_iload_n hx hb dL_texts_470 rfl (lv_at hl 0 rfl) ?_
  refine lv_imul hx hb dL_texts_471 ?_
  refine tI (y := nI 50) (by decide +kernel) ?_
  refine lv_iconst (v := nI 2) hx hb dL_texts_472 (by decide +kernel) ?_
  refine lv_iadd hx hb dL_texts_473 ?_
  refine tI (y := nI 52) (by decide +kernel) ?_
  refine lv_icmp_eq (tgt := 479) hx hb dL_texts_474 (by decide) (fun _ => ?_) (fun h => absurd h (by decide +kernel))
  refine lv_iinc (v := nI 26) (lv' := [(1, .int (nI 26)), (0, .ref q0)]) hx hb dL_texts_479 hl (k := 0) rfl (by decide +kernel) (by decide) rfl (fun ls hl => ?_)
  refine lv_goto (tgt := 443) hx hb dL_texts_482 (by decide) ?_
  refine lv_iload_n hx hb dL_texts_443 rfl (lv_at hl 0 rfl) ?_
  refine lv_bipush (v := nI 30) hx hb dL_texts_444 (by decide +kernel) ?_
  refine lv_icmp_ge (tgt := 485) hx hb dL_texts_446 (by decide) (fun h => absurd h (by decide +kernel)) (fun _ => ?_)
  refine lv_aload_n hx hb dL_texts_449 rfl (lv_at hl 1 rfl) ?_
  refine lv_bipush (v := nI 120) hx hb dL_texts_450 (by decide +kernel) ?_
  refine cx0 (st1 := [.int (nI (52 + 1))]) (va_runV (As := [.int (nI 120)]) (rest := []) ⟨hx, hb, hml, hown, hts⟩ (CX_append_ok l G hX hR (by decide) (by decide +kernel) 120 (by decide +kernel) (by decide +kernel)) (cwV 1 hts gL_texts_X5_append rfl rfl rfl (by decide +kernel) ⟨Nat.le_of_ble_eq_true rfl, Nat.le_of_ble_eq_true rfl⟩) (PJ.preV hE hJ.jx (xs_recv hE.1 hX (P_pre hP)) ⟨P_pre hP, D_tr (D_pre hD)⟩) rfl rfl hl.1 rfl (lv_room (Nat.le_of_ble_eq_true rfl)) dL_texts_452 ⟨Nat.le_of_ble_eq_true rfl, Nat.le_of_ble_eq_true rfl⟩) hP hD hS hJ0 hAl rfl (fun WC H locs hX hP hD hS hJ => ?_)
  have hR := PR_app (q := 120) hR (by decide) (by decide)
  rw [te_e76] at hX hR
  replace hX : XS G q0 (fnL L0) (fnL L0) ff2 0 0 53 (fnL te_T70) (nI 0) WC := hX
  replace hR : PR 20000 (fnL L0) (fnL L0) ff2 0 0 53 (fnL te_T70) (nI 0) := hR
  refine tI (y := nI 53) (by decide +kernel) ?_
  refine lv_iconst (v := nI 2) hx hb dL_texts_455 (by decide +kernel) ?_
  refine lv_iload_n hx hb dL_texts_456 rfl (lv_at hl 0 rfl) ?_
  refine lv_imul hx hb dL_texts_457 ?_
  refine tI (y := nI 52) (by decide +kernel) ?_
  refine lv_iconst (v := nI 1) hx hb dL_texts_458 (by decide +kernel) ?_
  refine lv_iadd hx hb dL_texts_459 ?_
  refine tI (y := nI 53) (by decide +kernel) ?_
  refine lv_icmp_ne (tgt := 477) hx hb dL_texts_460 (by decide) (fun h => absurd h (by decide +kernel)) (fun _ => ?_)
  refine lv_aload_n hx hb dL_texts_463 rfl (lv_at hl 1 rfl) ?_
  refine lv_bipush (v := nI 59) hx hb dL_texts_464 (by decide +kernel) ?_
  refine cx0 (st1 := [.int (nI (53 + 1))]) (va_runV (As := [.int (nI 59)]) (rest := []) ⟨hx, hb, hml, hown, hts⟩ (CX_append_ok l G hX hR (by decide) (by decide +kernel) 59 (by decide +kernel) (by decide +kernel)) (cwV 1 hts gL_texts_X5_append rfl rfl rfl (by decide +kernel) ⟨Nat.le_of_ble_eq_true rfl, Nat.le_of_ble_eq_true rfl⟩) (PJ.preV hE hJ.jx (xs_recv hE.1 hX (P_pre hP)) ⟨P_pre hP, D_tr (D_pre hD)⟩) rfl rfl hl.1 rfl (lv_room (Nat.le_of_ble_eq_true rfl)) dL_texts_466 ⟨Nat.le_of_ble_eq_true rfl, Nat.le_of_ble_eq_true rfl⟩) hP hD hS hJ0 hAl rfl (fun WC H locs hX hP hD hS hJ => ?_)
  have hR := PR_app (q := 59) hR (by decide) (by decide)
  rw [te_e77] at hX hR
  replace hX : XS G q0 (fnL L0) (fnL L0) ff2 0 0 54 (fnL te_T71) (nI 0) WC := hX
  replace hR : PR 20000 (fnL L0) (fnL L0) ff2 0 0 54 (fnL te_T71) (nI 0) := hR
  refine tI (y := nI 54) (by decide +kernel) ?_
  refine lv_iconst (v := nI 2) hx hb dL_texts_469 (by decide +kernel) ?_
  refine lv_iload_n hx hb dL_texts_470 rfl (lv_at hl 0 rfl) ?_
  refine lv_imul hx hb dL_texts_471 ?_
  refine tI (y := nI 52) (by decide +kernel) ?_
  refine lv_iconst (v := nI 2) hx hb dL_texts_472 (by decide +kernel) ?_
  refine lv_iadd hx hb dL_texts_473 ?_
  refine tI (y := nI 54) (by decide +kernel) ?_
  refine lv_icmp_eq (tgt := 479) hx hb dL_texts_474 (by decide) (fun _ => ?_) (fun h => absurd h (by decide +kernel))
  refine lv_iinc (v := nI 27) (lv' := [(1, .int (nI 27)), (0, .ref q0)]) hx hb dL_texts_479 hl (k := 0) rfl (by decide +kernel) (by decide) rfl (fun ls hl => ?_)
  refine lv_goto (tgt := 443) hx hb dL_texts_482 (by decide) ?_
  refine lv_iload_n hx hb dL_texts_443 rfl (lv_at hl 0 rfl) ?_
  refine lv_bipush (v := nI 30) hx hb dL_texts_444 (by decide +kernel) ?_
  refine lv_icmp_ge (tgt := 485) hx hb dL_texts_446 (by decide) (fun h => absurd h (by decide +kernel)) (fun _ => ?_)
  refine lv_aload_n hx hb dL_texts_449 rfl (lv_at hl 1 rfl) ?_
  refine lv_bipush (v := nI 120) hx hb dL_texts_450 (by decide +kernel) ?_
  refine cx0 (st1 := [.int (nI (54 + 1))]) (va_runV (As := [.int (nI 120)]) (rest := []) ⟨hx, hb, hml, hown, hts⟩ (CX_append_ok l G hX hR (by decide) (by decide +kernel) 120 (by decide +kernel) (by decide +kernel)) (cwV 1 hts gL_texts_X5_append rfl rfl rfl (by decide +kernel) ⟨Nat.le_of_ble_eq_true rfl, Nat.le_of_ble_eq_true rfl⟩) (PJ.preV hE hJ.jx (xs_recv hE.1 hX (P_pre hP)) ⟨P_pre hP, D_tr (D_pre hD)⟩) rfl rfl hl.1 rfl (lv_room (Nat.le_of_ble_eq_true rfl)) dL_texts_452 ⟨Nat.le_of_ble_eq_true rfl, Nat.le_of_ble_eq_true rfl⟩) hP hD hS hJ0 hAl rfl (fun WC H locs hX hP hD hS hJ => ?_)
  have hR := PR_app (q := 120) hR (by decide) (by decide)
  rw [te_e78] at hX hR
  replace hX : XS G q0 (fnL L0) (fnL L0) ff2 0 0 55 (fnL te_T72) (nI 0) WC := hX
  replace hR : PR 20000 (fnL L0) (fnL L0) ff2 0 0 55 (fnL te_T72) (nI 0) := hR
  refine tI (y := nI 55) (by decide +kernel) ?_
  refine lv_iconst (v := nI 2) hx hb dL_texts_455 (by decide +kernel) ?_
  refine lv_iload_n hx hb dL_texts_456 rfl (lv_at hl 0 rfl) ?_
  refine lv_imul hx hb dL_texts_457 ?_
  refine tI (y := nI 54) (by decide +kernel) ?_
  refine lv_iconst (v := nI 1) hx hb dL_texts_458 (by decide +kernel) ?_
  refine lv_iadd hx hb dL_texts_459 ?_
  refine tI (y := nI 55) (by decide +kernel) ?_
  refine lv_icmp_ne (tgt := 477) hx hb dL_texts_460 (by decide) (fun h => absurd h (by decide +kernel)) (fun _ => ?_)
  refine lv_aload_n hx hb dL_texts_463 rfl (lv_at hl 1 rfl) ?_
  refine lv_bipush (v := nI 59) hx hb dL_texts_464 (by decide +kernel) ?_
  refine cx0 (st1 := [.int (nI (55 + 1))]) (va_runV (As := [.int (nI 59)]) (rest := []) ⟨hx, hb, hml, hown, hts⟩ (CX_append_ok l G hX hR (by decide) (by decide +kernel) 59 (by decide +kernel) (by decide +kernel)) (cwV 1 hts gL_texts_X5_append rfl rfl rfl (by decide +kernel) ⟨Nat.le_of_ble_eq_true rfl, Nat.le_of_ble_eq_true rfl⟩) (PJ.preV hE hJ.jx (xs_recv hE.1 hX (P_pre hP)) ⟨P_pre hP, D_tr (D_pre hD)⟩) rfl rfl hl.1 rfl (lv_room (Nat.le_of_ble_eq_true rfl)) dL_texts_466 ⟨Nat.le_of_ble_eq_true rfl, Nat.le_of_ble_eq_true rfl⟩) hP hD hS hJ0 hAl rfl (fun WC H locs hX hP hD hS hJ => ?_)
  have hR := PR_app (q := 59) hR (by decide) (by decide)
  rw [te_e79] at hX hR
  replace hX : XS G q0 (fnL L0) (fnL L0) ff2 0 0 56 (fnL te_T73) (nI 0) WC := hX
  replace hR : PR 20000 (fnL L0) (fnL L0) ff2 0 0 56 (fnL te_T73) (nI 0) := hR
  refine tI (y := nI 56) (by decide +kernel) ?_
  refine lv_iconst (v := nI 2) hx hb dL_texts_469 (by decide +kernel) ?_
  refine lv_iload_n hx hb dL_texts_470 rfl (lv_at hl 0 rfl) ?_
  refine lv_imul hx hb dL_texts_471 ?_
  refine tI (y := nI 54) (by decide +kernel) ?_
  refine lv_iconst (v := nI 2) hx hb dL_texts_472 (by decide +kernel) ?_
  refine lv_iadd hx hb dL_texts_473 ?_
  refine tI (y := nI 56) (by decide +kernel) ?_
  refine lv_icmp_eq (tgt := 479) hx hb dL_texts_474 (by decide) (fun _ => ?_) (fun h => absurd h (by decide +kernel))
  refine lv_iinc (v := nI 28) (lv' := [(1, .int (nI 28)), (0, .ref q0)]) hx hb dL_texts_479 hl (k := 0) rfl (by decide +kernel) (by decide) rfl (fun ls hl => ?_)
  refine lv_goto (tgt := 443) hx hb dL_texts_482 (by decide) ?_
  refine lv_iload_n hx hb dL_texts_443 rfl (lv_at hl 0 rfl) ?_
  refine lv_bipush (v := nI 30) hx hb dL_texts_444 (by decide +kernel) ?_
  refine lv_icmp_ge (tgt := 485) hx hb dL_texts_446 (by decide) (fun h => absurd h (by decide +kernel)) (fun _ => ?_)
  refine lv_aload_n hx hb dL_texts_449 rfl (lv_at hl 1 rfl) ?_
  refine lv_bipush (v := nI 120) hx hb dL_texts_450 (by decide +kernel) ?_
  refine cx0 (st1 := [.int (nI (56 + 1))]) (va_runV (As := [.int (nI 120)]) (rest := []) ⟨hx, hb, hml, hown, hts⟩ (CX_append_ok l G hX hR (by decide) (by decide +kernel) 120 (by decide +kernel) (by decide +kernel)) (cwV 1 hts gL_texts_X5_append rfl rfl rfl (by decide +kernel) ⟨Nat.le_of_ble_eq_true rfl, Nat.le_of_ble_eq_true rfl⟩) (PJ.preV hE hJ.jx (xs_recv hE.1 hX (P_pre hP)) ⟨P_pre hP, D_tr (D_pre hD)⟩) rfl rfl hl.1 rfl (lv_room (Nat.le_of_ble_eq_true rfl)) dL_texts_452 ⟨Nat.le_of_ble_eq_true rfl, Nat.le_of_ble_eq_true rfl⟩) hP hD hS hJ0 hAl rfl (fun WC H locs hX hP hD hS hJ => ?_)
  have hR := PR_app (q := 120) hR (by decide) (by decide)
  rw [te_e80] at hX hR
  replace hX : XS G q0 (fnL L0) (fnL L0) ff2 0 0 57 (fnL te_T74) (nI 0) WC := hX
  replace hR : PR 20000 (fnL L0) (fnL L0) ff2 0 0 57 (fnL te_T74) (nI 0) := hR
  refine tI (y := nI 57) (by decide +kernel) ?_
  refine lv_iconst (v := nI 2) hx hb dL_texts_455 (by decide +kernel) ?_
  refine lv_iload_n hx hb dL_texts_456 rfl (lv_at hl 0 rfl) ?_
  refine lv_imul hx hb dL_texts_457 ?_
  refine tI (y := nI 56) (by decide +kernel) ?_
  refine lv_iconst (v := nI 1) hx hb dL_texts_458 (by decide +kernel) ?_
  refine lv_iadd hx hb dL_texts_459 ?_
  refine tI (y := nI 57) (by decide +kernel) ?_
  refine lv_icmp_ne (tgt := 477) hx hb dL_texts_460 (by decide) (fun h => absurd h (by decide +kernel)) (fun _ => ?_)
  refine lv_aload_n hx hb dL_texts_463 rfl (lv_at hl 1 rfl) ?_
  refine lv_bipush (v := nI 59) hx hb dL_texts_464 (by decide +kernel) ?_
  refine cx0 (st1 := [.int (nI (57 + 1))]) (va_runV (As := [.int (nI 59)]) (rest := []) ⟨hx, hb, hml, hown, hts⟩ (CX_append_ok l G hX hR (by decide) (by decide +kernel) 59 (by decide +kernel) (by decide +kernel)) (cwV 1 hts gL_texts_X5_append rfl rfl rfl (by decide +kernel) ⟨Nat.le_of_ble_eq_true rfl, Nat.le_of_ble_eq_true rfl⟩) (PJ.preV hE hJ.jx (xs_recv hE.1 hX (P_pre hP)) ⟨P_pre hP, D_tr (D_pre hD)⟩) rfl rfl hl.1 rfl (lv_room (Nat.le_of_ble_eq_true rfl)) dL_texts_466 ⟨Nat.le_of_ble_eq_true rfl, Nat.le_of_ble_eq_true rfl⟩) hP hD hS hJ0 hAl rfl (fun WC H locs hX hP hD hS hJ => ?_)
  have hR := PR_app (q := 59) hR (by decide) (by decide)
  rw [te_e81] at hX hR
  replace hX : XS G q0 (fnL L0) (fnL L0) ff2 0 0 58 (fnL te_T75) (nI 0) WC := hX
  replace hR : PR 20000 (fnL L0) (fnL L0) ff2 0 0 58 (fnL te_T75) (nI 0) := hR
  refine tI (y := nI 58) (by decide +kernel) ?_
  refine lv_iconst (v := nI 2) hx hb dL_texts_469 (by decide +kernel) ?_
  refine lv_iload_n hx hb dL_texts_470 rfl (lv_at hl 0 rfl) ?_
  refine lv_imul hx hb dL_texts_471 ?_
  refine tI (y := nI 56) (by decide +kernel) ?_
  refine lv_iconst (v := nI 2) hx hb dL_texts_472 (by decide +kernel) ?_
  refine lv_iadd hx hb dL_texts_473 ?_
  refine tI (y := nI 58) (by decide +kernel) ?_
  refine lv_icmp_eq (tgt := 479) hx hb dL_texts_474 (by decide) (fun _ => ?_) (fun h => absurd h (by decide +kernel))
  refine lv_iinc (v := nI 29) (lv' := [(1, .int (nI 29)), (0, .ref q0)]) hx hb dL_texts_479 hl (k := 0) rfl (by decide +kernel) (by decide) rfl (fun ls hl => ?_)
  refine lv_goto (tgt := 443) hx hb dL_texts_482 (by decide) ?_
  refine lv_iload_n hx hb dL_texts_443 rfl (lv_at hl 0 rfl) ?_
  refine lv_bipush (v := nI 30) hx hb dL_texts_444 (by decide +kernel) ?_
  refine lv_icmp_ge (tgt := 485) hx hb dL_texts_446 (by decide) (fun h => absurd h (by decide +kernel)) (fun _ => ?_)
  refine lv_aload_n hx hb dL_texts_449 rfl (lv_at hl 1 rfl) ?_
  refine lv_bipush (v := nI 120) hx hb dL_texts_450 (by decide +kernel) ?_
  refine cx0 (st1 := [.int (nI (58 + 1))]) (va_runV (As := [.int (nI 120)]) (rest := []) ⟨hx, hb, hml, hown, hts⟩ (CX_append_ok l G hX hR (by decide) (by decide +kernel) 120 (by decide +kernel) (by decide +kernel)) (cwV 1 hts gL_texts_X5_append rfl rfl rfl (by decide +kernel) ⟨Nat.le_of_ble_eq_true rfl, Nat.le_of_ble_eq_true rfl⟩) (PJ.preV hE hJ.jx (xs_recv hE.1 hX (P_pre hP)) ⟨P_pre hP, D_tr (D_pre hD)⟩) rfl rfl hl.1 rfl (lv_room (Nat.le_of_ble_eq_true rfl)) dL_texts_452 ⟨Nat.le_of_ble_eq_true rfl, Nat.le_of_ble_eq_true rfl⟩) hP hD hS hJ0 hAl rfl (fun WC H locs hX hP hD hS hJ => ?_)
  have hR := PR_app (q := 120) hR (by decide) (by decide)
  rw [te_e82] at hX hR
  replace hX : XS G q0 (fnL L0) (fnL L0) ff2 0 0 59 (fnL te_T76) (nI 0) WC := hX
  replace hR : PR 20000 (fnL L0) (fnL L0) ff2 0 0 59 (fnL te_T76) (nI 0) := hR
  refine tI (y := nI 59) (by decide +kernel) ?_
  refine lv_iconst (v := nI 2) hx hb dL_texts_455 (by decide +kernel) ?_
  refine lv_iload_n hx hb dL_texts_456 rfl (lv_at hl 0 rfl) ?_
  refine lv_imul hx hb dL_texts_457 ?_
  refine tI (y := nI 58) (by decide +kernel) ?_
  refine lv_iconst (v := nI 1) hx hb dL_texts_458 (by decide +kernel) ?_
  refine lv_iadd hx hb dL_texts_459 ?_
  refine tI (y := nI 59) (by decide +kernel) ?_
  refine lv_icmp_ne (tgt := 477) hx hb dL_texts_460 (by decide) (fun h => absurd h (by decide +kernel)) (fun _ => ?_)
  refine lv_aload_n hx hb dL_texts_463 rfl (lv_at hl 1 rfl) ?_
  refine lv_bipush (v := nI 59) hx hb dL_texts_464 (by decide +kernel) ?_
  refine cx0 (st1 := [.int (nI (59 + 1))]) (va_runV (As := [.int (nI 59)]) (rest := []) ⟨hx, hb, hml, hown, hts⟩ (CX_append_ok l G hX hR (by decide) (by decide +kernel) 59 (by decide +kernel) (by decide +kernel)) (cwV 1 hts gL_texts_X5_append rfl rfl rfl (by decide +kernel) ⟨Nat.le_of_ble_eq_true rfl, Nat.le_of_ble_eq_true rfl⟩) (PJ.preV hE hJ.jx (xs_recv hE.1 hX (P_pre hP)) ⟨P_pre hP, D_tr (D_pre hD)⟩) rfl rfl hl.1 rfl (lv_room (Nat.le_of_ble_eq_true rfl)) dL_texts_466 ⟨Nat.le_of_ble_eq_true rfl, Nat.le_of_ble_eq_true rfl⟩) hP hD hS hJ0 hAl rfl (fun WC H locs hX hP hD hS hJ => ?_)
  have hR := PR_app (q := 59) hR (by decide) (by decide)
  rw [te_e83] at hX hR
  replace hX : XS G q0 (fnL L0) (fnL L0) ff2 0 0 60 (fnL te_T77) (nI 0) WC := hX
  replace hR : PR 20000 (fnL L0) (fnL L0) ff2 0 0 60 (fnL te_T77) (nI 0) := hR
  refine tI (y := nI 60) (by decide +kernel) ?_
  refine lv_iconst (v := nI 2) hx hb dL_texts_469 (by decide +kernel) ?_
  refine lv_iload_n hx hb dL_texts_470 rfl (lv_at hl 0 rfl) ?_
  refine lv_imul hx hb dL_texts_471 ?_
  refine tI (y := nI 58) (by decide +kernel) ?_
  refine lv_iconst (v := nI 2) hx hb dL_texts_472 (by decide +kernel) ?_
  refine lv_iadd hx hb dL_texts_473 ?_
  refine tI (y := nI 60) (by decide +kernel) ?_
  refine lv_icmp_eq (tgt := 479) hx hb dL_texts_474 (by decide) (fun _ => ?_) (fun h => absurd h (by decide +kernel))
  exact te_s7 hlt hL9 hX hR hP hD hS hl

theorem xs_recv {G : eG} {fe : Nat} {f sf : Nat → Int32} {ff : Nat → Nat → Int32} {old sz len : Nat} {tx : Nat → Int32} {hsn : Int32} {W : va_W} {s : State} {H : Heap} {tys : List (ClassId × FieldType)} (hK : va_K G.1 vwCl tys s) (hX : XS G fe f sf ff old sz len tx hsn W) (hP : va_P G.1 vwCl W H) : ∃ cell : Cell, H[fe]? = some cell ∧ cell.vm.isStatics = false ∧ s.vm.findClass RX5 = some cell.cls := by
  obtain ⟨an, tn, sn, v0, v1, w, tf, tv0, tv1, tw, sv0, sv1, sw, ha, sv, ad, aa, vv0, vv1, ww, oa, co, rfl, hcp, hst, hcs, hcf, had⟩ := hX
  exact va_recv hK hP (ci := 5) (q0 := 0) rfl rfl

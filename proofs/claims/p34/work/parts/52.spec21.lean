/-- at(), of a static row -/
def PT (As : List Value) (G : eG) (t : Nat) (g : Nat → Nat) : Array Value → State → Prop := fun v U => v = As.toArray ∧ EV G U ∧ va_T .int t 3 (fun j => .int (nI (g j))) noA U U.heap
theorem PT.preS {As : List Value} {G : eG} {t : Nat} {g : Nat → Nat} {s : State} {H : Heap} (hE : EV G s) (hT : va_T .int t 3 (fun j => .int (nI (g j))) noA s H) : PreS s H (PT As G t g) As :=
  ⟨fun _ U jf mk h => ⟨h.1, EV.calling h.2.1, va_T.moved (u := U) (U := U.calling jf mk _) (Vm.Alike.refl U.vm) h.2.2⟩, fun U hU hW => ⟨rfl, EV.warm hW hE, by rw [hU]; exact va_T.moved hW.alike hT⟩⟩
set_option maxHeartbeats 4000000 in
set_option maxRecDepth 100000 in
theorem c_X5_at_T (l : Launch) (G : eG) (t : Nat) (g : Nat → Nat) (k : Nat) (hk : k < 3) : Met l yX5_at wsX5_at ({ frames := 0, cells := 0, slots := 0, locals := 0 }) (PT [.ref t, .int (nI k)] G t g) (PQ (some (.int (nI (g k))))) 0 0 noA := by
  refine Met.ofW (cc := cX5_at) (maxL := 2) (ret := (some .int)) (by decide) rfl ?_
  intro p e s m args below meth c s₁ B hml hv
  obtain ⟨rfl, hE, hT⟩ := hv
  have hl := lv_entry [.ref t, .int (nI k)] (n := 2) (Nat.le_of_ble_eq_true rfl)
  rw [lg_entry_eq]
  have hx := B.exec
  have hb := B.bytes
  have hr := B.returns
  have hlocks := B.notSynchronized
  generalize (lg_sl ([.ref t, .int (nI k)]) ++ List.replicate (2 - (lg_sl ([.ref t, .int (nI k)])).length) Slot.unset).toArray = ls at hl ⊢
  have hl : lv_has ls 2 [(0, .ref t), (1, .int (nI k))] := hl
  have hS : va_S noA s.heap s.heap [] := va_S.rf
  refine lv_iload_n hx hb dX5_at_0 rfl (lv_at hl 1 rfl) ?_
  refine lv_if_lt (tgt := 16) hx hb dX5_at_1 (by decide) (fun c1 => ?_) (fun c1 => ?_)
  · exact absurd c1 (nI_pos (by omega))
  · refine lv_iload_n hx hb dX5_at_4 rfl (lv_at hl 1 rfl) ?_
    refine lv_aload_n hx hb dX5_at_5 rfl (lv_at hl 0 rfl) ?_
    refine va_tlen (v := nI 3) hx hb hT hS rfl dX5_at_6 ?_
    refine icmp_geN (tgt := 16) hx hb (by omega) (by omega) dX5_at_7 (by decide) (fun c7 => ?_) (fun c7 => ?_)
    · omega
    · refine lv_aload_n hx hb dX5_at_10 rfl (lv_at hl 0 rfl) ?_
      refine lv_iload_n hx hb dX5_at_11 rfl (lv_at hl 1 rfl) ?_
      refine va_ti (v := .int (nI (g k))) hx hb hT hS (vp_in_nI hk (by decide)) (by rw [nI_clamp (by omega)]) dX5_at_12 ?_
      refine lv_goto (tgt := 17) hx hb dX5_at_13 (by decide) ?_
      exact W.iret hx hb hr (fun u hu hW => ⟨rfl, hu⟩) (fun _ h => nomatch h) dX5_at_17
set_option maxRecDepth 100000 in
theorem c_X5_putcur_B (l : Launch) (G : eG) (an : Nat → Nat) (f : Nat → Int32) (v0 v1 : Int32) (w : Nat → Nat → Int32) (hs : Shp f) (hcp : CplW f w) (x : Nat) (u : Int32) (hx : x < 24) : Met l yX5_put wsX5_put ({ frames := 0, cells := 0, slots := 0, locals := 0 }) (PC [.ref (an 1), .int (nI x), .int u] G (fun H => va_P G.1 vwCl (cST G an f v0 v1 w) H ∧ va_D (fun _ => True) (cST G an f v0 v1 w))) (MV (none) (fun H => ∃ v0' v1' w', CplW (upd f (3 + x) u) w' ∧ va_P G.1 vwCl (cST G an (upd f (3 + x) u) v0' v1' w') H ∧ va_D (inW (cST G an f v0 v1 w)) (cST G an (upd f (3 + x) u) v0' v1' w')) (inW (cST G an f v0 v1 w))) 0 0 (inW (cST G an f v0 v1 w)) := by
  exact pkB (f := upd f (3 + x) u) (c_X5_putcur l G (an 0) (an 1) (an 2) (an 3) (an 4) (an 5) (an 6) (an 7) (an 8) (an 9) (an 10) (an 11) (an 12) (an 13) (an 14) (an 15) (an 16) f v0 v1 (w 0) (w 1) (w 2) (w 3) (w 4) (w 5) (w 6) (w 7) hs x u hx) ⟨_, _, gw8 (w 0) (w 1) (w 2) (w 3) (w 4) (w 5) (w 6) (w 7), rfl, cpl_u (by omega) hs hcp⟩
set_option maxRecDepth 100000 in
theorem c_X5_putset_B (l : Launch) (G : eG) (an : Nat → Nat) (f : Nat → Int32) (v0 v1 : Int32) (w : Nat → Nat → Int32) (hs : Shp f) (hcp : CplW f w) (x : Nat) (u : Int32) (hx : x < 3) : Met l yX5_put wsX5_put ({ frames := 0, cells := 0, slots := 0, locals := 0 }) (PC [.ref (an 2), .int (nI x), .int u] G (fun H => va_P G.1 vwCl (cST G an f v0 v1 w) H ∧ va_D (fun _ => True) (cST G an f v0 v1 w))) (MV (none) (fun H => ∃ v0' v1' w', CplW (upd f x u) w' ∧ va_P G.1 vwCl (cST G an (upd f x u) v0' v1' w') H ∧ va_D (inW (cST G an f v0 v1 w)) (cST G an (upd f x u) v0' v1' w')) (inW (cST G an f v0 v1 w))) 0 0 (inW (cST G an f v0 v1 w)) := by
  exact pkB (f := upd f x u) (c_X5_putset l G (an 0) (an 1) (an 2) (an 3) (an 4) (an 5) (an 6) (an 7) (an 8) (an 9) (an 10) (an 11) (an 12) (an 13) (an 14) (an 15) (an 16) f v0 v1 (w 0) (w 1) (w 2) (w 3) (w 4) (w 5) (w 6) (w 7) hs x u hx) ⟨_, _, gw8 (w 0) (w 1) (w 2) (w 3) (w 4) (w 5) (w 6) (w 7), rfl, cpl_u (by omega) hs hcp⟩
